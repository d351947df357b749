theorem dX12_init_0 : decode cX12_init 0 = .ok (.aload_n 0, 1) := by decide +kernel
theorem dX12_init_1 : decode cX12_init 1 = .ok (.invokespecial 1, 3) := by decide +kernel
theorem dX12_init_4 : decode cX12_init 4 = .ok (.aload_n 0, 1) := by decide +kernel
theorem dX12_init_5 : decode cX12_init 5 = .ok (.sipush 240, 3) := by decide +kernel
theorem dX12_init_8 : decode cX12_init 8 = .ok (.newarray .int, 2) := by decide +kernel
theorem dX12_init_10 : decode cX12_init 10 = .ok (.putfield 9, 3) := by decide +kernel
theorem dX12_init_13 : decode cX12_init 13 = .ok (.aload_n 0, 1) := by decide +kernel
theorem dX12_init_14 : decode cX12_init 14 = .ok (.bipush 17, 2) := by decide +kernel
theorem dX12_init_16 : decode cX12_init 16 = .ok (.newarray .int, 2) := by decide +kernel
theorem dX12_init_18 : decode cX12_init 18 = .ok (.putfield 13, 3) := by decide +kernel
theorem dX12_init_21 : decode cX12_init 21 = .ok (.aload_n 0, 1) := by decide +kernel
theorem dX12_init_22 : decode cX12_init 22 = .ok (.bipush 17, 2) := by decide +kernel
theorem dX12_init_24 : decode cX12_init 24 = .ok (.newarray .int, 2) := by decide +kernel
theorem dX12_init_26 : decode cX12_init 26 = .ok (.putfield 16, 3) := by decide +kernel
theorem dX12_init_29 : decode cX12_init 29 = .ok (.aload_n 0, 1) := by decide +kernel
theorem dX12_init_30 : decode cX12_init 30 = .ok (.bipush 17, 2) := by decide +kernel
theorem dX12_init_32 : decode cX12_init 32 = .ok (.sipush 240, 3) := by decide +kernel
theorem dX12_init_35 : decode cX12_init 35 = .ok (.multianewarray 19 2, 4) := by decide +kernel
theorem dX12_init_39 : decode cX12_init 39 = .ok (.putfield 21, 3) := by decide +kernel
theorem dX12_init_42 : decode cX12_init 42 = .ok (.aload_n 0, 1) := by decide +kernel
theorem dX12_init_43 : decode cX12_init 43 = .ok (.bipush 16, 2) := by decide +kernel
theorem dX12_init_45 : decode cX12_init 45 = .ok (.anewarray 24, 3) := by decide +kernel
theorem dX12_init_48 : decode cX12_init 48 = .ok (.putfield 25, 3) := by decide +kernel
theorem dX12_init_51 : decode cX12_init 51 = .ok (.aload_n 0, 1) := by decide +kernel
theorem dX12_init_52 : decode cX12_init 52 = .ok (.bipush 16, 2) := by decide +kernel
theorem dX12_init_54 : decode cX12_init 54 = .ok (.newarray .int, 2) := by decide +kernel
theorem dX12_init_56 : decode cX12_init 56 = .ok (.putfield 28, 3) := by decide +kernel
theorem dX12_init_59 : decode cX12_init 59 = .ok (.aload_n 0, 1) := by decide +kernel
theorem dX12_init_60 : decode cX12_init 60 = .ok (.iconst 0, 1) := by decide +kernel
theorem dX12_init_61 : decode cX12_init 61 = .ok (.newarray .int, 2) := by decide +kernel
theorem dX12_init_63 : decode cX12_init 63 = .ok (.putfield 31, 3) := by decide +kernel
theorem dX12_init_66 : decode cX12_init 66 = .ok (.aload_n 0, 1) := by decide +kernel
theorem dX12_init_67 : decode cX12_init 67 = .ok (.bipush 40, 2) := by decide +kernel
theorem dX12_init_69 : decode cX12_init 69 = .ok (.newarray .int, 2) := by decide +kernel
theorem dX12_init_71 : decode cX12_init 71 = .ok (.putfield 34, 3) := by decide +kernel
theorem dX12_init_74 : decode cX12_init 74 = .ok (.aload_n 0, 1) := by decide +kernel
theorem dX12_init_75 : decode cX12_init 75 = .ok (.bipush 40, 2) := by decide +kernel
theorem dX12_init_77 : decode cX12_init 77 = .ok (.newarray .int, 2) := by decide +kernel
theorem dX12_init_79 : decode cX12_init 79 = .ok (.putfield 37, 3) := by decide +kernel
theorem dX12_init_82 : decode cX12_init 82 = .ok (.aload_n 0, 1) := by decide +kernel
theorem dX12_init_83 : decode cX12_init 83 = .ok (.bipush 40, 2) := by decide +kernel
theorem dX12_init_85 : decode cX12_init 85 = .ok (.newarray .int, 2) := by decide +kernel
theorem dX12_init_87 : decode cX12_init 87 = .ok (.putfield 40, 3) := by decide +kernel
theorem dX12_init_90 : decode cX12_init 90 = .ok (.aload_n 0, 1) := by decide +kernel
theorem dX12_init_91 : decode cX12_init 91 = .ok (.bipush 40, 2) := by decide +kernel
theorem dX12_init_93 : decode cX12_init 93 = .ok (.newarray .int, 2) := by decide +kernel
theorem dX12_init_95 : decode cX12_init 95 = .ok (.putfield 43, 3) := by decide +kernel
theorem dX12_init_98 : decode cX12_init 98 = .ok (.aload_n 0, 1) := by decide +kernel
theorem dX12_init_99 : decode cX12_init 99 = .ok (.sipush 490, 3) := by decide +kernel
theorem dX12_init_102 : decode cX12_init 102 = .ok (.newarray .int, 2) := by decide +kernel
theorem dX12_init_104 : decode cX12_init 104 = .ok (.putfield 46, 3) := by decide +kernel
theorem dX12_init_107 : decode cX12_init 107 = .ok (.aload_n 0, 1) := by decide +kernel
theorem dX12_init_108 : decode cX12_init 108 = .ok (.sipush 240, 3) := by decide +kernel
theorem dX12_init_111 : decode cX12_init 111 = .ok (.newarray .int, 2) := by decide +kernel
theorem dX12_init_113 : decode cX12_init 113 = .ok (.putfield 49, 3) := by decide +kernel
theorem dX12_init_116 : decode cX12_init 116 = .ok (.aload_n 0, 1) := by decide +kernel
theorem dX12_init_117 : decode cX12_init 117 = .ok (.bipush 16, 2) := by decide +kernel
theorem dX12_init_119 : decode cX12_init 119 = .ok (.newarray .boolean, 2) := by decide +kernel
theorem dX12_init_121 : decode cX12_init 121 = .ok (.putfield 52, 3) := by decide +kernel
theorem dX12_init_124 : decode cX12_init 124 = .ok (.aload_n 0, 1) := by decide +kernel
theorem dX12_init_125 : decode cX12_init 125 = .ok (.bipush 16, 2) := by decide +kernel
theorem dX12_init_127 : decode cX12_init 127 = .ok (.newarray .int, 2) := by decide +kernel
theorem dX12_init_129 : decode cX12_init 129 = .ok (.putfield 56, 3) := by decide +kernel
theorem dX12_init_132 : decode cX12_init 132 = .ok (.iconst 0, 1) := by decide +kernel
theorem dX12_init_133 : decode cX12_init 133 = .ok (.istore_n 1, 1) := by decide +kernel
theorem dX12_init_134 : decode cX12_init 134 = .ok (.iload_n 1, 1) := by decide +kernel
theorem dX12_init_135 : decode cX12_init 135 = .ok (.bipush 16, 2) := by decide +kernel
theorem dX12_init_137 : decode cX12_init 137 = .ok (.if_icmp .ge 16, 3) := by decide +kernel
theorem dX12_init_140 : decode cX12_init 140 = .ok (.aload_n 0, 1) := by decide +kernel
theorem dX12_init_141 : decode cX12_init 141 = .ok (.getfield 28, 3) := by decide +kernel
theorem dX12_init_144 : decode cX12_init 144 = .ok (.iload_n 1, 1) := by decide +kernel
theorem dX12_init_145 : decode cX12_init 145 = .ok (.iconst (-1), 1) := by decide +kernel
theorem dX12_init_146 : decode cX12_init 146 = .ok (.iastore, 1) := by decide +kernel
theorem dX12_init_147 : decode cX12_init 147 = .ok (.iinc 1 1, 3) := by decide +kernel
theorem dX12_init_150 : decode cX12_init 150 = .ok (.goto (-16), 3) := by decide +kernel
theorem dX12_init_153 : decode cX12_init 153 = .ok (.return_, 1) := by decide +kernel
theorem dX12_thrown_0 : decode cX12_thrown 0 = .ok (.aload_n 0, 1) := by decide +kernel
theorem dX12_thrown_1 : decode cX12_thrown 1 = .ok (.getfield 59, 3) := by decide +kernel
theorem dX12_thrown_4 : decode cX12_thrown 4 = .ok (.ireturn, 1) := by decide +kernel
theorem dX12_no_0 : decode cX12_no 0 = .ok (.aload_n 0, 1) := by decide +kernel
theorem dX12_no_1 : decode cX12_no 1 = .ok (.iload_n 1, 1) := by decide +kernel
theorem dX12_no_2 : decode cX12_no 2 = .ok (.putfield 59, 3) := by decide +kernel
theorem dX12_no_5 : decode cX12_no 5 = .ok (.iconst 0, 1) := by decide +kernel
theorem dX12_no_6 : decode cX12_no 6 = .ok (.ireturn, 1) := by decide +kernel
theorem dX12_isNot_0 : decode cX12_isNot 0 = .ok (.aload_n 0, 1) := by decide +kernel
theorem dX12_isNot_1 : decode cX12_isNot 1 = .ok (.iload_n 1, 1) := by decide +kernel
theorem dX12_isNot_2 : decode cX12_isNot 2 = .ok (.putfield 59, 3) := by decide +kernel
theorem dX12_isNot_5 : decode cX12_isNot 5 = .ok (.iconst 0, 1) := by decide +kernel
theorem dX12_isNot_6 : decode cX12_isNot 6 = .ok (.ireturn, 1) := by decide +kernel
theorem dX12_ok_0 : decode cX12_ok 0 = .ok (.aload_n 0, 1) := by decide +kernel
theorem dX12_ok_1 : decode cX12_ok 1 = .ok (.iconst 0, 1) := by decide +kernel
theorem dX12_ok_2 : decode cX12_ok 2 = .ok (.putfield 59, 3) := by decide +kernel
theorem dX12_ok_5 : decode cX12_ok 5 = .ok (.iload_n 1, 1) := by decide +kernel
theorem dX12_ok_6 : decode cX12_ok 6 = .ok (.ireturn, 1) := by decide +kernel
theorem dX12_isIn_0 : decode cX12_isIn 0 = .ok (.iload_n 0, 1) := by decide +kernel
theorem dX12_isIn_1 : decode cX12_isIn 1 = .ok (.iload_n 1, 1) := by decide +kernel
theorem dX12_isIn_2 : decode cX12_isIn 2 = .ok (.if_icmp .lt 12, 3) := by decide +kernel
theorem dX12_isIn_5 : decode cX12_isIn 5 = .ok (.iload_n 0, 1) := by decide +kernel
theorem dX12_isIn_6 : decode cX12_isIn 6 = .ok (.iload_n 2, 1) := by decide +kernel
theorem dX12_isIn_7 : decode cX12_isIn 7 = .ok (.if_icmp .gt 7, 3) := by decide +kernel
theorem dX12_isIn_10 : decode cX12_isIn 10 = .ok (.iconst 1, 1) := by decide +kernel
theorem dX12_isIn_11 : decode cX12_isIn 11 = .ok (.goto 4, 3) := by decide +kernel
theorem dX12_isIn_14 : decode cX12_isIn 14 = .ok (.iconst 0, 1) := by decide +kernel
theorem dX12_isIn_15 : decode cX12_isIn 15 = .ok (.ireturn, 1) := by decide +kernel
theorem dX12_times_0 : decode cX12_times 0 = .ok (.iconst 0, 1) := by decide +kernel
theorem dX12_times_1 : decode cX12_times 1 = .ok (.istore_n 2, 1) := by decide +kernel
theorem dX12_times_2 : decode cX12_times 2 = .ok (.iload_n 0, 1) := by decide +kernel
theorem dX12_times_3 : decode cX12_times 3 = .ok (.istore_n 3, 1) := by decide +kernel
theorem dX12_times_4 : decode cX12_times 4 = .ok (.iload_n 1, 1) := by decide +kernel
theorem dX12_times_5 : decode cX12_times 5 = .ok (.istore 4, 2) := by decide +kernel
theorem dX12_times_7 : decode cX12_times 7 = .ok (.iload 4, 2) := by decide +kernel
theorem dX12_times_9 : decode cX12_times 9 = .ok (.ifCond .eq 40, 3) := by decide +kernel
theorem dX12_times_12 : decode cX12_times 12 = .ok (.iload 4, 2) := by decide +kernel
theorem dX12_times_14 : decode cX12_times 14 = .ok (.iconst 1, 1) := by decide +kernel
theorem dX12_times_15 : decode cX12_times 15 = .ok (.iand, 1) := by decide +kernel
theorem dX12_times_16 : decode cX12_times 16 = .ok (.ifCond .eq 7, 3) := by decide +kernel
theorem dX12_times_19 : decode cX12_times 19 = .ok (.iload_n 2, 1) := by decide +kernel
theorem dX12_times_20 : decode cX12_times 20 = .ok (.iload_n 3, 1) := by decide +kernel
theorem dX12_times_21 : decode cX12_times 21 = .ok (.ixor, 1) := by decide +kernel
theorem dX12_times_22 : decode cX12_times 22 = .ok (.istore_n 2, 1) := by decide +kernel
theorem dX12_times_23 : decode cX12_times 23 = .ok (.iload_n 3, 1) := by decide +kernel
theorem dX12_times_24 : decode cX12_times 24 = .ok (.iconst 1, 1) := by decide +kernel
theorem dX12_times_25 : decode cX12_times 25 = .ok (.ishl, 1) := by decide +kernel
theorem dX12_times_26 : decode cX12_times 26 = .ok (.istore_n 3, 1) := by decide +kernel
theorem dX12_times_27 : decode cX12_times 27 = .ok (.iload_n 3, 1) := by decide +kernel
theorem dX12_times_28 : decode cX12_times 28 = .ok (.sipush 255, 3) := by decide +kernel
theorem dX12_times_31 : decode cX12_times 31 = .ok (.if_icmp .le 9, 3) := by decide +kernel
theorem dX12_times_34 : decode cX12_times 34 = .ok (.iload_n 3, 1) := by decide +kernel
theorem dX12_times_35 : decode cX12_times 35 = .ok (.sipush 285, 3) := by decide +kernel
theorem dX12_times_38 : decode cX12_times 38 = .ok (.ixor, 1) := by decide +kernel
theorem dX12_times_39 : decode cX12_times 39 = .ok (.istore_n 3, 1) := by decide +kernel
theorem dX12_times_40 : decode cX12_times 40 = .ok (.iload 4, 2) := by decide +kernel
theorem dX12_times_42 : decode cX12_times 42 = .ok (.iconst 1, 1) := by decide +kernel
theorem dX12_times_43 : decode cX12_times 43 = .ok (.ishr, 1) := by decide +kernel
theorem dX12_times_44 : decode cX12_times 44 = .ok (.istore 4, 2) := by decide +kernel
theorem dX12_times_46 : decode cX12_times 46 = .ok (.goto (-39), 3) := by decide +kernel
theorem dX12_times_49 : decode cX12_times 49 = .ok (.iload_n 2, 1) := by decide +kernel
theorem dX12_times_50 : decode cX12_times 50 = .ok (.ireturn, 1) := by decide +kernel
set_option maxRecDepth 20000 in
theorem ggX12_inverseOf_X12_times : GoodIn wsX12_inverseOf wsX12_times := goodIn_r _ [4] (by decide +kernel) (by decide +kernel)
set_option maxRecDepth 20000 in
theorem gX12_inverseOf_X12_times : GoodIn wsX12_inverseOf (va_wsS RX12 63 yX12_times wsX12_times) := goodIn_app (goodIn_of _ (by decide +kernel)) ggX12_inverseOf_X12_times
theorem dX12_inverseOf_0 : decode cX12_inverseOf 0 = .ok (.iconst 1, 1) := by decide +kernel
theorem dX12_inverseOf_1 : decode cX12_inverseOf 1 = .ok (.istore_n 1, 1) := by decide +kernel
theorem dX12_inverseOf_2 : decode cX12_inverseOf 2 = .ok (.iload_n 0, 1) := by decide +kernel
theorem dX12_inverseOf_3 : decode cX12_inverseOf 3 = .ok (.iload_n 1, 1) := by decide +kernel
theorem dX12_inverseOf_4 : decode cX12_inverseOf 4 = .ok (.invokestatic 63, 3) := by decide +kernel
theorem dX12_inverseOf_7 : decode cX12_inverseOf 7 = .ok (.iconst 1, 1) := by decide +kernel
theorem dX12_inverseOf_8 : decode cX12_inverseOf 8 = .ok (.if_icmp .eq 9, 3) := by decide +kernel
theorem dX12_inverseOf_11 : decode cX12_inverseOf 11 = .ok (.iinc 1 1, 3) := by decide +kernel
theorem dX12_inverseOf_14 : decode cX12_inverseOf 14 = .ok (.goto (-12), 3) := by decide +kernel
theorem dX12_inverseOf_17 : decode cX12_inverseOf 17 = .ok (.iload_n 1, 1) := by decide +kernel
theorem dX12_inverseOf_18 : decode cX12_inverseOf 18 = .ok (.ireturn, 1) := by decide +kernel
set_option maxRecDepth 20000 in
theorem ggX12_factor_X12_inverseOf : GoodIn wsX12_factor wsX12_inverseOf := goodIn_r _ [4, 5, 6, 3, 7] (by decide +kernel) (by decide +kernel)
set_option maxRecDepth 20000 in
theorem gX12_factor_X12_inverseOf : GoodIn wsX12_factor (va_wsS RX12 67 yX12_inverseOf wsX12_inverseOf) := goodIn_app (goodIn_of _ (by decide +kernel)) ggX12_factor_X12_inverseOf
theorem dX12_factor_0 : decode cX12_factor 0 = .ok (.sipush 128, 3) := by decide +kernel
theorem dX12_factor_3 : decode cX12_factor 3 = .ok (.iload_n 0, 1) := by decide +kernel
theorem dX12_factor_4 : decode cX12_factor 4 = .ok (.iadd, 1) := by decide +kernel
theorem dX12_factor_5 : decode cX12_factor 5 = .ok (.iload_n 1, 1) := by decide +kernel
theorem dX12_factor_6 : decode cX12_factor 6 = .ok (.ixor, 1) := by decide +kernel
theorem dX12_factor_7 : decode cX12_factor 7 = .ok (.invokestatic 67, 3) := by decide +kernel
theorem dX12_factor_10 : decode cX12_factor 10 = .ok (.ireturn, 1) := by decide +kernel
set_option maxRecDepth 20000 in
theorem ggX12_product_X12_isIn : GoodIn wsX12_product wsX12_isIn := goodIn_r _ [5] (by decide +kernel) (by decide +kernel)
set_option maxRecDepth 20000 in
theorem gX12_product_X12_isIn : GoodIn wsX12_product (va_wsS RX12 71 yX12_isIn wsX12_isIn) := goodIn_app (goodIn_of _ (by decide +kernel)) ggX12_product_X12_isIn
set_option maxRecDepth 20000 in
theorem ggX12_product_X12_times : GoodIn wsX12_product wsX12_times := goodIn_r _ [8] (by decide +kernel) (by decide +kernel)
set_option maxRecDepth 20000 in
theorem gX12_product_X12_times : GoodIn wsX12_product (va_wsS RX12 63 yX12_times wsX12_times) := goodIn_app (goodIn_of _ (by decide +kernel)) ggX12_product_X12_times
set_option maxRecDepth 20000 in
theorem ggX12_product_X12_no : GoodIn wsX12_product wsX12_no := goodIn_r _ [12, 1, 13, 14, 15, 16, 17, 18, 19, 20, 21, 22, 23, 24, 25, 26, 27, 28, 29, 30, 31, 32, 33, 34, 35, 36, 37] (by decide +kernel) (by decide +kernel)
set_option maxRecDepth 20000 in
theorem gX12_product_X12_no : GoodIn wsX12_product (wsV RX12 75 RX12 yX12_no wsX12_no) := goodIn_app (goodIn_of _ (by decide +kernel)) ggX12_product_X12_no
theorem dX12_product_0 : decode cX12_product 0 = .ok (.aload_n 0, 1) := by decide +kernel
theorem dX12_product_1 : decode cX12_product 1 = .ok (.iconst 0, 1) := by decide +kernel
theorem dX12_product_2 : decode cX12_product 2 = .ok (.putfield 59, 3) := by decide +kernel
theorem dX12_product_5 : decode cX12_product 5 = .ok (.iload_n 1, 1) := by decide +kernel
theorem dX12_product_6 : decode cX12_product 6 = .ok (.iconst 0, 1) := by decide +kernel
theorem dX12_product_7 : decode cX12_product 7 = .ok (.sipush 255, 3) := by decide +kernel
theorem dX12_product_10 : decode cX12_product 10 = .ok (.invokestatic 71, 3) := by decide +kernel
theorem dX12_product_13 : decode cX12_product 13 = .ok (.ifCond .eq 22, 3) := by decide +kernel
theorem dX12_product_16 : decode cX12_product 16 = .ok (.iload_n 2, 1) := by decide +kernel
theorem dX12_product_17 : decode cX12_product 17 = .ok (.iconst 0, 1) := by decide +kernel
theorem dX12_product_18 : decode cX12_product 18 = .ok (.sipush 255, 3) := by decide +kernel
theorem dX12_product_21 : decode cX12_product 21 = .ok (.invokestatic 71, 3) := by decide +kernel
theorem dX12_product_24 : decode cX12_product 24 = .ok (.ifCond .eq 11, 3) := by decide +kernel
theorem dX12_product_27 : decode cX12_product 27 = .ok (.iload_n 1, 1) := by decide +kernel
theorem dX12_product_28 : decode cX12_product 28 = .ok (.iload_n 2, 1) := by decide +kernel
theorem dX12_product_29 : decode cX12_product 29 = .ok (.invokestatic 63, 3) := by decide +kernel
theorem dX12_product_32 : decode cX12_product 32 = .ok (.goto 8, 3) := by decide +kernel
theorem dX12_product_35 : decode cX12_product 35 = .ok (.aload_n 0, 1) := by decide +kernel
theorem dX12_product_36 : decode cX12_product 36 = .ok (.iconst 1, 1) := by decide +kernel
theorem dX12_product_37 : decode cX12_product 37 = .ok (.invokevirtual 75, 3) := by decide +kernel
theorem dX12_product_40 : decode cX12_product 40 = .ok (.ireturn, 1) := by decide +kernel
set_option maxRecDepth 20000 in
theorem ggX12_inverse_X12_isIn : GoodIn wsX12_inverse wsX12_isIn := goodIn_r _ [5] (by decide +kernel) (by decide +kernel)
set_option maxRecDepth 20000 in
theorem gX12_inverse_X12_isIn : GoodIn wsX12_inverse (va_wsS RX12 71 yX12_isIn wsX12_isIn) := goodIn_app (goodIn_of _ (by decide +kernel)) ggX12_inverse_X12_isIn
set_option maxRecDepth 20000 in
theorem ggX12_inverse_X12_inverseOf : GoodIn wsX12_inverse wsX12_inverseOf := goodIn_r _ [8, 9, 10, 4, 11] (by decide +kernel) (by decide +kernel)
set_option maxRecDepth 20000 in
theorem gX12_inverse_X12_inverseOf : GoodIn wsX12_inverse (va_wsS RX12 67 yX12_inverseOf wsX12_inverseOf) := goodIn_app (goodIn_of _ (by decide +kernel)) ggX12_inverse_X12_inverseOf
set_option maxRecDepth 20000 in
theorem ggX12_inverse_X12_no : GoodIn wsX12_inverse wsX12_no := goodIn_r _ [15, 1, 16, 17, 18, 19, 20, 21, 22, 23, 24, 25, 26, 27, 28, 29, 30, 31, 32, 33, 34, 35, 36, 37, 38, 39, 40] (by decide +kernel) (by decide +kernel)
set_option maxRecDepth 20000 in
theorem gX12_inverse_X12_no : GoodIn wsX12_inverse (wsV RX12 75 RX12 yX12_no wsX12_no) := goodIn_app (goodIn_of _ (by decide +kernel)) ggX12_inverse_X12_no
theorem dX12_inverse_0 : decode cX12_inverse 0 = .ok (.aload_n 0, 1) := by decide +kernel
theorem dX12_inverse_1 : decode cX12_inverse 1 = .ok (.iconst 0, 1) := by decide +kernel
theorem dX12_inverse_2 : decode cX12_inverse 2 = .ok (.putfield 59, 3) := by decide +kernel
theorem dX12_inverse_5 : decode cX12_inverse 5 = .ok (.iload_n 1, 1) := by decide +kernel
theorem dX12_inverse_6 : decode cX12_inverse 6 = .ok (.iconst 1, 1) := by decide +kernel
theorem dX12_inverse_7 : decode cX12_inverse 7 = .ok (.sipush 255, 3) := by decide +kernel
theorem dX12_inverse_10 : decode cX12_inverse 10 = .ok (.invokestatic 71, 3) := by decide +kernel
theorem dX12_inverse_13 : decode cX12_inverse 13 = .ok (.ifCond .eq 10, 3) := by decide +kernel
theorem dX12_inverse_16 : decode cX12_inverse 16 = .ok (.iload_n 1, 1) := by decide +kernel
theorem dX12_inverse_17 : decode cX12_inverse 17 = .ok (.invokestatic 67, 3) := by decide +kernel
theorem dX12_inverse_20 : decode cX12_inverse 20 = .ok (.goto 8, 3) := by decide +kernel
theorem dX12_inverse_23 : decode cX12_inverse 23 = .ok (.aload_n 0, 1) := by decide +kernel
theorem dX12_inverse_24 : decode cX12_inverse 24 = .ok (.iconst 1, 1) := by decide +kernel
theorem dX12_inverse_25 : decode cX12_inverse 25 = .ok (.invokevirtual 75, 3) := by decide +kernel
theorem dX12_inverse_28 : decode cX12_inverse 28 = .ok (.ireturn, 1) := by decide +kernel
set_option maxRecDepth 20000 in
theorem ggX12_power_X12_isIn : GoodIn wsX12_power wsX12_isIn := goodIn_r _ [5] (by decide +kernel) (by decide +kernel)
set_option maxRecDepth 20000 in
theorem gX12_power_X12_isIn : GoodIn wsX12_power (va_wsS RX12 71 yX12_isIn wsX12_isIn) := goodIn_app (goodIn_of _ (by decide +kernel)) ggX12_power_X12_isIn
set_option maxRecDepth 20000 in
theorem ggX12_power_X12_no : GoodIn wsX12_power wsX12_no := goodIn_r _ [9, 1, 13, 14, 15, 16, 17, 18, 19, 20, 21, 22, 23, 24, 25, 26, 27, 28, 29, 30, 31, 32, 33, 34, 35, 36, 37] (by decide +kernel) (by decide +kernel)
set_option maxRecDepth 20000 in
theorem gX12_power_X12_no : GoodIn wsX12_power (wsV RX12 75 RX12 yX12_no wsX12_no) := goodIn_app (goodIn_of _ (by decide +kernel)) ggX12_power_X12_no
set_option maxRecDepth 20000 in
theorem ggX12_power_X12_times : GoodIn wsX12_power wsX12_times := goodIn_r _ [12] (by decide +kernel) (by decide +kernel)
set_option maxRecDepth 20000 in
theorem gX12_power_X12_times : GoodIn wsX12_power (va_wsS RX12 63 yX12_times wsX12_times) := goodIn_app (goodIn_of _ (by decide +kernel)) ggX12_power_X12_times
theorem dX12_power_0 : decode cX12_power 0 = .ok (.aload_n 0, 1) := by decide +kernel
theorem dX12_power_1 : decode cX12_power 1 = .ok (.iconst 0, 1) := by decide +kernel
theorem dX12_power_2 : decode cX12_power 2 = .ok (.putfield 59, 3) := by decide +kernel
theorem dX12_power_5 : decode cX12_power 5 = .ok (.iload_n 1, 1) := by decide +kernel
theorem dX12_power_6 : decode cX12_power 6 = .ok (.iconst 0, 1) := by decide +kernel
theorem dX12_power_7 : decode cX12_power 7 = .ok (.sipush 255, 3) := by decide +kernel
theorem dX12_power_10 : decode cX12_power 10 = .ok (.invokestatic 71, 3) := by decide +kernel
theorem dX12_power_13 : decode cX12_power 13 = .ok (.ifCond .eq 14, 3) := by decide +kernel
theorem dX12_power_16 : decode cX12_power 16 = .ok (.iload_n 2, 1) := by decide +kernel
theorem dX12_power_17 : decode cX12_power 17 = .ok (.iconst 0, 1) := by decide +kernel
theorem dX12_power_18 : decode cX12_power 18 = .ok (.sipush 1000, 3) := by decide +kernel
theorem dX12_power_21 : decode cX12_power 21 = .ok (.invokestatic 71, 3) := by decide +kernel
theorem dX12_power_24 : decode cX12_power 24 = .ok (.ifCond .ne 9, 3) := by decide +kernel
theorem dX12_power_27 : decode cX12_power 27 = .ok (.aload_n 0, 1) := by decide +kernel
theorem dX12_power_28 : decode cX12_power 28 = .ok (.iconst 1, 1) := by decide +kernel
theorem dX12_power_29 : decode cX12_power 29 = .ok (.invokevirtual 75, 3) := by decide +kernel
theorem dX12_power_32 : decode cX12_power 32 = .ok (.ireturn, 1) := by decide +kernel
theorem dX12_power_33 : decode cX12_power 33 = .ok (.iconst 1, 1) := by decide +kernel
theorem dX12_power_34 : decode cX12_power 34 = .ok (.istore_n 3, 1) := by decide +kernel
theorem dX12_power_35 : decode cX12_power 35 = .ok (.iconst 0, 1) := by decide +kernel
theorem dX12_power_36 : decode cX12_power 36 = .ok (.istore 4, 2) := by decide +kernel
theorem dX12_power_38 : decode cX12_power 38 = .ok (.iload 4, 2) := by decide +kernel
theorem dX12_power_40 : decode cX12_power 40 = .ok (.iload_n 2, 1) := by decide +kernel
theorem dX12_power_41 : decode cX12_power 41 = .ok (.if_icmp .ge 15, 3) := by decide +kernel
theorem dX12_power_44 : decode cX12_power 44 = .ok (.iload_n 3, 1) := by decide +kernel
theorem dX12_power_45 : decode cX12_power 45 = .ok (.iload_n 1, 1) := by decide +kernel
theorem dX12_power_46 : decode cX12_power 46 = .ok (.invokestatic 63, 3) := by decide +kernel
theorem dX12_power_49 : decode cX12_power 49 = .ok (.istore_n 3, 1) := by decide +kernel
theorem dX12_power_50 : decode cX12_power 50 = .ok (.iinc 4 1, 3) := by decide +kernel
theorem dX12_power_53 : decode cX12_power 53 = .ok (.goto (-15), 3) := by decide +kernel
theorem dX12_power_56 : decode cX12_power 56 = .ok (.iload_n 3, 1) := by decide +kernel
theorem dX12_power_57 : decode cX12_power 57 = .ok (.ireturn, 1) := by decide +kernel
set_option maxRecDepth 20000 in
theorem ggX12_coefficient_X12_isIn : GoodIn wsX12_coefficient wsX12_isIn := goodIn_r _ [5] (by decide +kernel) (by decide +kernel)
set_option maxRecDepth 20000 in
theorem gX12_coefficient_X12_isIn : GoodIn wsX12_coefficient (va_wsS RX12 71 yX12_isIn wsX12_isIn) := goodIn_app (goodIn_of _ (by decide +kernel)) ggX12_coefficient_X12_isIn
set_option maxRecDepth 20000 in
theorem ggX12_coefficient_X12_factor : GoodIn wsX12_coefficient wsX12_factor := goodIn_r _ [8, 9, 10, 4, 11, 12, 13, 14] (by decide +kernel) (by decide +kernel)
set_option maxRecDepth 20000 in
theorem gX12_coefficient_X12_factor : GoodIn wsX12_coefficient (va_wsS RX12 78 yX12_factor wsX12_factor) := goodIn_app (goodIn_of _ (by decide +kernel)) ggX12_coefficient_X12_factor
set_option maxRecDepth 20000 in
theorem ggX12_coefficient_X12_no : GoodIn wsX12_coefficient wsX12_no := goodIn_r _ [18, 1, 19, 20, 21, 22, 23, 24, 25, 26, 27, 28, 29, 30, 31, 32, 33, 34, 35, 36, 37, 38, 39, 40, 41, 42, 43] (by decide +kernel) (by decide +kernel)
set_option maxRecDepth 20000 in
theorem gX12_coefficient_X12_no : GoodIn wsX12_coefficient (wsV RX12 75 RX12 yX12_no wsX12_no) := goodIn_app (goodIn_of _ (by decide +kernel)) ggX12_coefficient_X12_no
theorem dX12_coefficient_0 : decode cX12_coefficient 0 = .ok (.aload_n 0, 1) := by decide +kernel
theorem dX12_coefficient_1 : decode cX12_coefficient 1 = .ok (.iconst 0, 1) := by decide +kernel
theorem dX12_coefficient_2 : decode cX12_coefficient 2 = .ok (.putfield 59, 3) := by decide +kernel
theorem dX12_coefficient_5 : decode cX12_coefficient 5 = .ok (.iload_n 1, 1) := by decide +kernel
theorem dX12_coefficient_6 : decode cX12_coefficient 6 = .ok (.iconst 0, 1) := by decide +kernel
theorem dX12_coefficient_7 : decode cX12_coefficient 7 = .ok (.iconst 5, 1) := by decide +kernel
theorem dX12_coefficient_8 : decode cX12_coefficient 8 = .ok (.invokestatic 71, 3) := by decide +kernel
theorem dX12_coefficient_11 : decode cX12_coefficient 11 = .ok (.ifCond .eq 21, 3) := by decide +kernel
theorem dX12_coefficient_14 : decode cX12_coefficient 14 = .ok (.iload_n 2, 1) := by decide +kernel
theorem dX12_coefficient_15 : decode cX12_coefficient 15 = .ok (.iconst 0, 1) := by decide +kernel
theorem dX12_coefficient_16 : decode cX12_coefficient 16 = .ok (.bipush 9, 2) := by decide +kernel
theorem dX12_coefficient_18 : decode cX12_coefficient 18 = .ok (.invokestatic 71, 3) := by decide +kernel
theorem dX12_coefficient_21 : decode cX12_coefficient 21 = .ok (.ifCond .eq 11, 3) := by decide +kernel
theorem dX12_coefficient_24 : decode cX12_coefficient 24 = .ok (.iload_n 1, 1) := by decide +kernel
theorem dX12_coefficient_25 : decode cX12_coefficient 25 = .ok (.iload_n 2, 1) := by decide +kernel
theorem dX12_coefficient_26 : decode cX12_coefficient 26 = .ok (.invokestatic 78, 3) := by decide +kernel
theorem dX12_coefficient_29 : decode cX12_coefficient 29 = .ok (.goto 8, 3) := by decide +kernel
theorem dX12_coefficient_32 : decode cX12_coefficient 32 = .ok (.aload_n 0, 1) := by decide +kernel
theorem dX12_coefficient_33 : decode cX12_coefficient 33 = .ok (.iconst 1, 1) := by decide +kernel
theorem dX12_coefficient_34 : decode cX12_coefficient 34 = .ok (.invokevirtual 75, 3) := by decide +kernel
theorem dX12_coefficient_37 : decode cX12_coefficient 37 = .ok (.ireturn, 1) := by decide +kernel
theorem dX12_checked_0 : decode cX12_checked 0 = .ok (.iload_n 0, 1) := by decide +kernel
theorem dX12_checked_1 : decode cX12_checked 1 = .ok (.iload_n 1, 1) := by decide +kernel
theorem dX12_checked_2 : decode cX12_checked 2 = .ok (.bipush 8, 2) := by decide +kernel
theorem dX12_checked_4 : decode cX12_checked 4 = .ok (.ishl, 1) := by decide +kernel
theorem dX12_checked_5 : decode cX12_checked 5 = .ok (.ixor, 1) := by decide +kernel
theorem dX12_checked_6 : decode cX12_checked 6 = .ok (.istore_n 2, 1) := by decide +kernel
theorem dX12_checked_7 : decode cX12_checked 7 = .ok (.iconst 0, 1) := by decide +kernel
theorem dX12_checked_8 : decode cX12_checked 8 = .ok (.istore_n 3, 1) := by decide +kernel
theorem dX12_checked_9 : decode cX12_checked 9 = .ok (.iload_n 3, 1) := by decide +kernel
theorem dX12_checked_10 : decode cX12_checked 10 = .ok (.bipush 8, 2) := by decide +kernel
theorem dX12_checked_12 : decode cX12_checked 12 = .ok (.if_icmp .ge 32, 3) := by decide +kernel
theorem dX12_checked_15 : decode cX12_checked 15 = .ok (.iload_n 2, 1) := by decide +kernel
theorem dX12_checked_16 : decode cX12_checked 16 = .ok (.ldc 81, 2) := by decide +kernel
theorem dX12_checked_18 : decode cX12_checked 18 = .ok (.if_icmp .ge 9, 3) := by decide +kernel
theorem dX12_checked_21 : decode cX12_checked 21 = .ok (.iconst 2, 1) := by decide +kernel
theorem dX12_checked_22 : decode cX12_checked 22 = .ok (.iload_n 2, 1) := by decide +kernel
theorem dX12_checked_23 : decode cX12_checked 23 = .ok (.imul, 1) := by decide +kernel
theorem dX12_checked_24 : decode cX12_checked 24 = .ok (.goto 13, 3) := by decide +kernel
theorem dX12_checked_27 : decode cX12_checked 27 = .ok (.iconst 2, 1) := by decide +kernel
theorem dX12_checked_28 : decode cX12_checked 28 = .ok (.iload_n 2, 1) := by decide +kernel
theorem dX12_checked_29 : decode cX12_checked 29 = .ok (.imul, 1) := by decide +kernel
theorem dX12_checked_30 : decode cX12_checked 30 = .ok (.ldc 82, 2) := by decide +kernel
theorem dX12_checked_32 : decode cX12_checked 32 = .ok (.isub, 1) := by decide +kernel
theorem dX12_checked_33 : decode cX12_checked 33 = .ok (.sipush 4129, 3) := by decide +kernel
theorem dX12_checked_36 : decode cX12_checked 36 = .ok (.ixor, 1) := by decide +kernel
theorem dX12_checked_37 : decode cX12_checked 37 = .ok (.istore_n 2, 1) := by decide +kernel
theorem dX12_checked_38 : decode cX12_checked 38 = .ok (.iinc 3 1, 3) := by decide +kernel
theorem dX12_checked_41 : decode cX12_checked 41 = .ok (.goto (-32), 3) := by decide +kernel
theorem dX12_checked_44 : decode cX12_checked 44 = .ok (.iload_n 2, 1) := by decide +kernel
theorem dX12_checked_45 : decode cX12_checked 45 = .ok (.ireturn, 1) := by decide +kernel
set_option maxRecDepth 20000 in
theorem ggX12_check_X12_checked : GoodIn wsX12_check wsX12_checked := goodIn_r _ [5, 6, 7] (by decide +kernel) (by decide +kernel)
set_option maxRecDepth 20000 in
theorem gX12_check_X12_checked : GoodIn wsX12_check (va_wsS RX12 84 yX12_checked wsX12_checked) := goodIn_app (goodIn_of _ (by decide +kernel)) ggX12_check_X12_checked
theorem dX12_check_0 : decode cX12_check 0 = .ok (.ldc 83, 2) := by decide +kernel
theorem dX12_check_2 : decode cX12_check 2 = .ok (.istore_n 3, 1) := by decide +kernel
theorem dX12_check_3 : decode cX12_check 3 = .ok (.iload_n 1, 1) := by decide +kernel
theorem dX12_check_4 : decode cX12_check 4 = .ok (.istore 4, 2) := by decide +kernel
theorem dX12_check_6 : decode cX12_check 6 = .ok (.iload 4, 2) := by decide +kernel
theorem dX12_check_8 : decode cX12_check 8 = .ok (.iload_n 2, 1) := by decide +kernel
theorem dX12_check_9 : decode cX12_check 9 = .ok (.if_icmp .ge 18, 3) := by decide +kernel
theorem dX12_check_12 : decode cX12_check 12 = .ok (.iload_n 3, 1) := by decide +kernel
theorem dX12_check_13 : decode cX12_check 13 = .ok (.aload_n 0, 1) := by decide +kernel
theorem dX12_check_14 : decode cX12_check 14 = .ok (.iload 4, 2) := by decide +kernel
theorem dX12_check_16 : decode cX12_check 16 = .ok (.iaload, 1) := by decide +kernel
theorem dX12_check_17 : decode cX12_check 17 = .ok (.invokestatic 84, 3) := by decide +kernel
theorem dX12_check_20 : decode cX12_check 20 = .ok (.istore_n 3, 1) := by decide +kernel
theorem dX12_check_21 : decode cX12_check 21 = .ok (.iinc 4 1, 3) := by decide +kernel
theorem dX12_check_24 : decode cX12_check 24 = .ok (.goto (-18), 3) := by decide +kernel
theorem dX12_check_27 : decode cX12_check 27 = .ok (.iload_n 3, 1) := by decide +kernel
theorem dX12_check_28 : decode cX12_check 28 = .ok (.ireturn, 1) := by decide +kernel
theorem dX12_isTriple_0 : decode cX12_isTriple 0 = .ok (.iload_n 2, 1) := by decide +kernel
theorem dX12_isTriple_1 : decode cX12_isTriple 1 = .ok (.iconst 2, 1) := by decide +kernel
theorem dX12_isTriple_2 : decode cX12_isTriple 2 = .ok (.iadd, 1) := by decide +kernel
theorem dX12_isTriple_3 : decode cX12_isTriple 3 = .ok (.iload_n 1, 1) := by decide +kernel
theorem dX12_isTriple_4 : decode cX12_isTriple 4 = .ok (.if_icmp .ge 29, 3) := by decide +kernel
theorem dX12_isTriple_7 : decode cX12_isTriple 7 = .ok (.aload_n 0, 1) := by decide +kernel
theorem dX12_isTriple_8 : decode cX12_isTriple 8 = .ok (.iload_n 2, 1) := by decide +kernel
theorem dX12_isTriple_9 : decode cX12_isTriple 9 = .ok (.iaload, 1) := by decide +kernel
theorem dX12_isTriple_10 : decode cX12_isTriple 10 = .ok (.aload_n 0, 1) := by decide +kernel
theorem dX12_isTriple_11 : decode cX12_isTriple 11 = .ok (.iload_n 2, 1) := by decide +kernel
theorem dX12_isTriple_12 : decode cX12_isTriple 12 = .ok (.iconst 1, 1) := by decide +kernel
theorem dX12_isTriple_13 : decode cX12_isTriple 13 = .ok (.iadd, 1) := by decide +kernel
theorem dX12_isTriple_14 : decode cX12_isTriple 14 = .ok (.iaload, 1) := by decide +kernel
theorem dX12_isTriple_15 : decode cX12_isTriple 15 = .ok (.if_icmp .ne 18, 3) := by decide +kernel
theorem dX12_isTriple_18 : decode cX12_isTriple 18 = .ok (.aload_n 0, 1) := by decide +kernel
theorem dX12_isTriple_19 : decode cX12_isTriple 19 = .ok (.iload_n 2, 1) := by decide +kernel
theorem dX12_isTriple_20 : decode cX12_isTriple 20 = .ok (.iaload, 1) := by decide +kernel
theorem dX12_isTriple_21 : decode cX12_isTriple 21 = .ok (.aload_n 0, 1) := by decide +kernel
theorem dX12_isTriple_22 : decode cX12_isTriple 22 = .ok (.iload_n 2, 1) := by decide +kernel
theorem dX12_isTriple_23 : decode cX12_isTriple 23 = .ok (.iconst 2, 1) := by decide +kernel
theorem dX12_isTriple_24 : decode cX12_isTriple 24 = .ok (.iadd, 1) := by decide +kernel
theorem dX12_isTriple_25 : decode cX12_isTriple 25 = .ok (.iaload, 1) := by decide +kernel
theorem dX12_isTriple_26 : decode cX12_isTriple 26 = .ok (.if_icmp .ne 7, 3) := by decide +kernel
theorem dX12_isTriple_29 : decode cX12_isTriple 29 = .ok (.iconst 1, 1) := by decide +kernel
theorem dX12_isTriple_30 : decode cX12_isTriple 30 = .ok (.goto 4, 3) := by decide +kernel
theorem dX12_isTriple_33 : decode cX12_isTriple 33 = .ok (.iconst 0, 1) := by decide +kernel
theorem dX12_isTriple_34 : decode cX12_isTriple 34 = .ok (.ireturn, 1) := by decide +kernel
set_option maxRecDepth 20000 in
theorem ggX12_pack_X12_isTriple : GoodIn wsX12_pack wsX12_isTriple := goodIn_r _ [5] (by decide +kernel) (by decide +kernel)
set_option maxRecDepth 20000 in
theorem gX12_pack_X12_isTriple : GoodIn wsX12_pack (va_wsS RX12 87 yX12_isTriple wsX12_isTriple) := goodIn_app (goodIn_of _ (by decide +kernel)) ggX12_pack_X12_isTriple
theorem dX12_pack_0 : decode cX12_pack 0 = .ok (.iconst 0, 1) := by decide +kernel
theorem dX12_pack_1 : decode cX12_pack 1 = .ok (.istore_n 3, 1) := by decide +kernel
theorem dX12_pack_2 : decode cX12_pack 2 = .ok (.iconst 0, 1) := by decide +kernel
theorem dX12_pack_3 : decode cX12_pack 3 = .ok (.istore 4, 2) := by decide +kernel
theorem dX12_pack_5 : decode cX12_pack 5 = .ok (.iload 4, 2) := by decide +kernel
theorem dX12_pack_7 : decode cX12_pack 7 = .ok (.iload_n 2, 1) := by decide +kernel
theorem dX12_pack_8 : decode cX12_pack 8 = .ok (.if_icmp .ge 172, 3) := by decide +kernel
theorem dX12_pack_11 : decode cX12_pack 11 = .ok (.iload 4, 2) := by decide +kernel
theorem dX12_pack_13 : decode cX12_pack 13 = .ok (.iconst 1, 1) := by decide +kernel
theorem dX12_pack_14 : decode cX12_pack 14 = .ok (.iadd, 1) := by decide +kernel
theorem dX12_pack_15 : decode cX12_pack 15 = .ok (.istore 5, 2) := by decide +kernel
theorem dX12_pack_17 : decode cX12_pack 17 = .ok (.aload_n 1, 1) := by decide +kernel
theorem dX12_pack_18 : decode cX12_pack 18 = .ok (.iload_n 2, 1) := by decide +kernel
theorem dX12_pack_19 : decode cX12_pack 19 = .ok (.iload 4, 2) := by decide +kernel
theorem dX12_pack_21 : decode cX12_pack 21 = .ok (.invokestatic 87, 3) := by decide +kernel
theorem dX12_pack_24 : decode cX12_pack 24 = .ok (.ifCond .eq 70, 3) := by decide +kernel
theorem dX12_pack_27 : decode cX12_pack 27 = .ok (.iload 5, 2) := by decide +kernel
theorem dX12_pack_29 : decode cX12_pack 29 = .ok (.iload_n 2, 1) := by decide +kernel
theorem dX12_pack_30 : decode cX12_pack 30 = .ok (.if_icmp .ge 31, 3) := by decide +kernel
theorem dX12_pack_33 : decode cX12_pack 33 = .ok (.iload 5, 2) := by decide +kernel
theorem dX12_pack_35 : decode cX12_pack 35 = .ok (.iload 4, 2) := by decide +kernel
theorem dX12_pack_37 : decode cX12_pack 37 = .ok (.sipush 129, 3) := by decide +kernel
theorem dX12_pack_40 : decode cX12_pack 40 = .ok (.iadd, 1) := by decide +kernel
theorem dX12_pack_41 : decode cX12_pack 41 = .ok (.if_icmp .ge 20, 3) := by decide +kernel
theorem dX12_pack_44 : decode cX12_pack 44 = .ok (.aload_n 1, 1) := by decide +kernel
theorem dX12_pack_45 : decode cX12_pack 45 = .ok (.iload 5, 2) := by decide +kernel
theorem dX12_pack_47 : decode cX12_pack 47 = .ok (.iaload, 1) := by decide +kernel
theorem dX12_pack_48 : decode cX12_pack 48 = .ok (.aload_n 1, 1) := by decide +kernel
theorem dX12_pack_49 : decode cX12_pack 49 = .ok (.iload 4, 2) := by decide +kernel
theorem dX12_pack_51 : decode cX12_pack 51 = .ok (.iaload, 1) := by decide +kernel
theorem dX12_pack_52 : decode cX12_pack 52 = .ok (.if_icmp .ne 9, 3) := by decide +kernel
theorem dX12_pack_55 : decode cX12_pack 55 = .ok (.iinc 5 1, 3) := by decide +kernel
theorem dX12_pack_58 : decode cX12_pack 58 = .ok (.goto (-31), 3) := by decide +kernel
theorem dX12_pack_61 : decode cX12_pack 61 = .ok (.aload_n 0, 1) := by decide +kernel
theorem dX12_pack_62 : decode cX12_pack 62 = .ok (.getfield 46, 3) := by decide +kernel
theorem dX12_pack_65 : decode cX12_pack 65 = .ok (.iload_n 3, 1) := by decide +kernel
theorem dX12_pack_66 : decode cX12_pack 66 = .ok (.iinc 3 1, 3) := by decide +kernel
theorem dX12_pack_69 : decode cX12_pack 69 = .ok (.bipush 126, 2) := by decide +kernel
theorem dX12_pack_71 : decode cX12_pack 71 = .ok (.iload 5, 2) := by decide +kernel
theorem dX12_pack_73 : decode cX12_pack 73 = .ok (.iadd, 1) := by decide +kernel
theorem dX12_pack_74 : decode cX12_pack 74 = .ok (.iload 4, 2) := by decide +kernel
theorem dX12_pack_76 : decode cX12_pack 76 = .ok (.isub, 1) := by decide +kernel
theorem dX12_pack_77 : decode cX12_pack 77 = .ok (.iastore, 1) := by decide +kernel
theorem dX12_pack_78 : decode cX12_pack 78 = .ok (.aload_n 0, 1) := by decide +kernel
theorem dX12_pack_79 : decode cX12_pack 79 = .ok (.getfield 46, 3) := by decide +kernel
theorem dX12_pack_82 : decode cX12_pack 82 = .ok (.iload_n 3, 1) := by decide +kernel
theorem dX12_pack_83 : decode cX12_pack 83 = .ok (.iinc 3 1, 3) := by decide +kernel
theorem dX12_pack_86 : decode cX12_pack 86 = .ok (.aload_n 1, 1) := by decide +kernel
theorem dX12_pack_87 : decode cX12_pack 87 = .ok (.iload 4, 2) := by decide +kernel
theorem dX12_pack_89 : decode cX12_pack 89 = .ok (.iaload, 1) := by decide +kernel
theorem dX12_pack_90 : decode cX12_pack 90 = .ok (.iastore, 1) := by decide +kernel
theorem dX12_pack_91 : decode cX12_pack 91 = .ok (.goto 82, 3) := by decide +kernel
theorem dX12_pack_94 : decode cX12_pack 94 = .ok (.iload 5, 2) := by decide +kernel
theorem dX12_pack_96 : decode cX12_pack 96 = .ok (.iload_n 2, 1) := by decide +kernel
theorem dX12_pack_97 : decode cX12_pack 97 = .ok (.if_icmp .ge 30, 3) := by decide +kernel
theorem dX12_pack_100 : decode cX12_pack 100 = .ok (.iload 5, 2) := by decide +kernel
theorem dX12_pack_102 : decode cX12_pack 102 = .ok (.iload 4, 2) := by decide +kernel
theorem dX12_pack_104 : decode cX12_pack 104 = .ok (.sipush 128, 3) := by decide +kernel
theorem dX12_pack_107 : decode cX12_pack 107 = .ok (.iadd, 1) := by decide +kernel
theorem dX12_pack_108 : decode cX12_pack 108 = .ok (.if_icmp .ge 19, 3) := by decide +kernel
theorem dX12_pack_111 : decode cX12_pack 111 = .ok (.aload_n 1, 1) := by decide +kernel
theorem dX12_pack_112 : decode cX12_pack 112 = .ok (.iload_n 2, 1) := by decide +kernel
theorem dX12_pack_113 : decode cX12_pack 113 = .ok (.iload 5, 2) := by decide +kernel
theorem dX12_pack_115 : decode cX12_pack 115 = .ok (.invokestatic 87, 3) := by decide +kernel
theorem dX12_pack_118 : decode cX12_pack 118 = .ok (.ifCond .ne 9, 3) := by decide +kernel
theorem dX12_pack_121 : decode cX12_pack 121 = .ok (.iinc 5 1, 3) := by decide +kernel
theorem dX12_pack_124 : decode cX12_pack 124 = .ok (.goto (-30), 3) := by decide +kernel
theorem dX12_pack_127 : decode cX12_pack 127 = .ok (.aload_n 0, 1) := by decide +kernel
theorem dX12_pack_128 : decode cX12_pack 128 = .ok (.getfield 46, 3) := by decide +kernel
theorem dX12_pack_131 : decode cX12_pack 131 = .ok (.iload_n 3, 1) := by decide +kernel
theorem dX12_pack_132 : decode cX12_pack 132 = .ok (.iinc 3 1, 3) := by decide +kernel
theorem dX12_pack_135 : decode cX12_pack 135 = .ok (.iload 5, 2) := by decide +kernel
theorem dX12_pack_137 : decode cX12_pack 137 = .ok (.iload 4, 2) := by decide +kernel
theorem dX12_pack_139 : decode cX12_pack 139 = .ok (.isub, 1) := by decide +kernel
theorem dX12_pack_140 : decode cX12_pack 140 = .ok (.iconst 1, 1) := by decide +kernel
theorem dX12_pack_141 : decode cX12_pack 141 = .ok (.isub, 1) := by decide +kernel
theorem dX12_pack_142 : decode cX12_pack 142 = .ok (.iastore, 1) := by decide +kernel
theorem dX12_pack_143 : decode cX12_pack 143 = .ok (.iload 4, 2) := by decide +kernel
theorem dX12_pack_145 : decode cX12_pack 145 = .ok (.istore 6, 2) := by decide +kernel
theorem dX12_pack_147 : decode cX12_pack 147 = .ok (.iload 6, 2) := by decide +kernel
theorem dX12_pack_149 : decode cX12_pack 149 = .ok (.iload 5, 2) := by decide +kernel
theorem dX12_pack_151 : decode cX12_pack 151 = .ok (.if_icmp .ge 22, 3) := by decide +kernel
theorem dX12_pack_154 : decode cX12_pack 154 = .ok (.aload_n 0, 1) := by decide +kernel
theorem dX12_pack_155 : decode cX12_pack 155 = .ok (.getfield 46, 3) := by decide +kernel
theorem dX12_pack_158 : decode cX12_pack 158 = .ok (.iload_n 3, 1) := by decide +kernel
theorem dX12_pack_159 : decode cX12_pack 159 = .ok (.iinc 3 1, 3) := by decide +kernel
theorem dX12_pack_162 : decode cX12_pack 162 = .ok (.aload_n 1, 1) := by decide +kernel
theorem dX12_pack_163 : decode cX12_pack 163 = .ok (.iload 6, 2) := by decide +kernel
theorem dX12_pack_165 : decode cX12_pack 165 = .ok (.iaload, 1) := by decide +kernel
theorem dX12_pack_166 : decode cX12_pack 166 = .ok (.iastore, 1) := by decide +kernel
theorem dX12_pack_167 : decode cX12_pack 167 = .ok (.iinc 6 1, 3) := by decide +kernel
theorem dX12_pack_170 : decode cX12_pack 170 = .ok (.goto (-23), 3) := by decide +kernel
theorem dX12_pack_173 : decode cX12_pack 173 = .ok (.iload 5, 2) := by decide +kernel
theorem dX12_pack_175 : decode cX12_pack 175 = .ok (.istore 4, 2) := by decide +kernel
theorem dX12_pack_177 : decode cX12_pack 177 = .ok (.goto (-172), 3) := by decide +kernel
theorem dX12_pack_180 : decode cX12_pack 180 = .ok (.iload_n 3, 1) := by decide +kernel
theorem dX12_pack_181 : decode cX12_pack 181 = .ok (.ireturn, 1) := by decide +kernel
theorem dX12_unpack_0 : decode cX12_unpack 0 = .ok (.iconst 0, 1) := by decide +kernel
theorem dX12_unpack_1 : decode cX12_unpack 1 = .ok (.istore 5, 2) := by decide +kernel
theorem dX12_unpack_3 : decode cX12_unpack 3 = .ok (.iload_n 2, 1) := by decide +kernel
theorem dX12_unpack_4 : decode cX12_unpack 4 = .ok (.istore 6, 2) := by decide +kernel
theorem dX12_unpack_6 : decode cX12_unpack 6 = .ok (.iload 6, 2) := by decide +kernel
theorem dX12_unpack_8 : decode cX12_unpack 8 = .ok (.iload_n 3, 1) := by decide +kernel
theorem dX12_unpack_9 : decode cX12_unpack 9 = .ok (.if_icmp .ge 158, 3) := by decide +kernel
theorem dX12_unpack_12 : decode cX12_unpack 12 = .ok (.iload 4, 2) := by decide +kernel
theorem dX12_unpack_14 : decode cX12_unpack 14 = .ok (.ifCond .eq 13, 3) := by decide +kernel
theorem dX12_unpack_17 : decode cX12_unpack 17 = .ok (.aload_n 1, 1) := by decide +kernel
theorem dX12_unpack_18 : decode cX12_unpack 18 = .ok (.iload 6, 2) := by decide +kernel
theorem dX12_unpack_20 : decode cX12_unpack 20 = .ok (.iinc 6 1, 3) := by decide +kernel
theorem dX12_unpack_23 : decode cX12_unpack 23 = .ok (.iaload, 1) := by decide +kernel
theorem dX12_unpack_24 : decode cX12_unpack 24 = .ok (.goto 8, 3) := by decide +kernel
theorem dX12_unpack_27 : decode cX12_unpack 27 = .ok (.iload_n 3, 1) := by decide +kernel
theorem dX12_unpack_28 : decode cX12_unpack 28 = .ok (.iload_n 2, 1) := by decide +kernel
theorem dX12_unpack_29 : decode cX12_unpack 29 = .ok (.isub, 1) := by decide +kernel
theorem dX12_unpack_30 : decode cX12_unpack 30 = .ok (.iconst 1, 1) := by decide +kernel
theorem dX12_unpack_31 : decode cX12_unpack 31 = .ok (.isub, 1) := by decide +kernel
theorem dX12_unpack_32 : decode cX12_unpack 32 = .ok (.istore 7, 2) := by decide +kernel
theorem dX12_unpack_34 : decode cX12_unpack 34 = .ok (.iload 4, 2) := by decide +kernel
theorem dX12_unpack_36 : decode cX12_unpack 36 = .ok (.ifCond .eq 14, 3) := by decide +kernel
theorem dX12_unpack_39 : decode cX12_unpack 39 = .ok (.iload 7, 2) := by decide +kernel
theorem dX12_unpack_41 : decode cX12_unpack 41 = .ok (.bipush 127, 2) := by decide +kernel
theorem dX12_unpack_43 : decode cX12_unpack 43 = .ok (.if_icmp .le 7, 3) := by decide +kernel
theorem dX12_unpack_46 : decode cX12_unpack 46 = .ok (.iconst 1, 1) := by decide +kernel
theorem dX12_unpack_47 : decode cX12_unpack 47 = .ok (.goto 4, 3) := by decide +kernel
theorem dX12_unpack_50 : decode cX12_unpack 50 = .ok (.iconst 0, 1) := by decide +kernel
theorem dX12_unpack_51 : decode cX12_unpack 51 = .ok (.istore 8, 2) := by decide +kernel
theorem dX12_unpack_53 : decode cX12_unpack 53 = .ok (.iload 8, 2) := by decide +kernel
theorem dX12_unpack_55 : decode cX12_unpack 55 = .ok (.ifCond .eq 11, 3) := by decide +kernel
theorem dX12_unpack_58 : decode cX12_unpack 58 = .ok (.iload 7, 2) := by decide +kernel
theorem dX12_unpack_60 : decode cX12_unpack 60 = .ok (.bipush 126, 2) := by decide +kernel
theorem dX12_unpack_62 : decode cX12_unpack 62 = .ok (.isub, 1) := by decide +kernel
theorem dX12_unpack_63 : decode cX12_unpack 63 = .ok (.goto 7, 3) := by decide +kernel
theorem dX12_unpack_66 : decode cX12_unpack 66 = .ok (.iload 7, 2) := by decide +kernel
theorem dX12_unpack_68 : decode cX12_unpack 68 = .ok (.iconst 1, 1) := by decide +kernel
theorem dX12_unpack_69 : decode cX12_unpack 69 = .ok (.iadd, 1) := by decide +kernel
theorem dX12_unpack_70 : decode cX12_unpack 70 = .ok (.istore 9, 2) := by decide +kernel
theorem dX12_unpack_72 : decode cX12_unpack 72 = .ok (.iload 5, 2) := by decide +kernel
theorem dX12_unpack_74 : decode cX12_unpack 74 = .ok (.iload 9, 2) := by decide +kernel
theorem dX12_unpack_76 : decode cX12_unpack 76 = .ok (.iadd, 1) := by decide +kernel
theorem dX12_unpack_77 : decode cX12_unpack 77 = .ok (.sipush 240, 3) := by decide +kernel
theorem dX12_unpack_80 : decode cX12_unpack 80 = .ok (.if_icmp .gt 21, 3) := by decide +kernel
theorem dX12_unpack_83 : decode cX12_unpack 83 = .ok (.iload 6, 2) := by decide +kernel
theorem dX12_unpack_85 : decode cX12_unpack 85 = .ok (.iload 8, 2) := by decide +kernel
theorem dX12_unpack_87 : decode cX12_unpack 87 = .ok (.ifCond .eq 7, 3) := by decide +kernel
theorem dX12_unpack_90 : decode cX12_unpack 90 = .ok (.iconst 1, 1) := by decide +kernel
theorem dX12_unpack_91 : decode cX12_unpack 91 = .ok (.goto 5, 3) := by decide +kernel
theorem dX12_unpack_94 : decode cX12_unpack 94 = .ok (.iload 9, 2) := by decide +kernel
theorem dX12_unpack_96 : decode cX12_unpack 96 = .ok (.iadd, 1) := by decide +kernel
theorem dX12_unpack_97 : decode cX12_unpack 97 = .ok (.iload_n 3, 1) := by decide +kernel
theorem dX12_unpack_98 : decode cX12_unpack 98 = .ok (.if_icmp .le 5, 3) := by decide +kernel
theorem dX12_unpack_101 : decode cX12_unpack 101 = .ok (.iconst (-1), 1) := by decide +kernel
theorem dX12_unpack_102 : decode cX12_unpack 102 = .ok (.ireturn, 1) := by decide +kernel
theorem dX12_unpack_103 : decode cX12_unpack 103 = .ok (.iconst 0, 1) := by decide +kernel
theorem dX12_unpack_104 : decode cX12_unpack 104 = .ok (.istore 10, 2) := by decide +kernel
theorem dX12_unpack_106 : decode cX12_unpack 106 = .ok (.iload 10, 2) := by decide +kernel
theorem dX12_unpack_108 : decode cX12_unpack 108 = .ok (.iload 9, 2) := by decide +kernel
theorem dX12_unpack_110 : decode cX12_unpack 110 = .ok (.if_icmp .ge 38, 3) := by decide +kernel
theorem dX12_unpack_113 : decode cX12_unpack 113 = .ok (.aload_n 0, 1) := by decide +kernel
theorem dX12_unpack_114 : decode cX12_unpack 114 = .ok (.getfield 49, 3) := by decide +kernel
theorem dX12_unpack_117 : decode cX12_unpack 117 = .ok (.iload 5, 2) := by decide +kernel
theorem dX12_unpack_119 : decode cX12_unpack 119 = .ok (.iinc 5 1, 3) := by decide +kernel
theorem dX12_unpack_122 : decode cX12_unpack 122 = .ok (.iload 8, 2) := by decide +kernel
theorem dX12_unpack_124 : decode cX12_unpack 124 = .ok (.ifCond .eq 10, 3) := by decide +kernel
theorem dX12_unpack_127 : decode cX12_unpack 127 = .ok (.aload_n 1, 1) := by decide +kernel
theorem dX12_unpack_128 : decode cX12_unpack 128 = .ok (.iload 6, 2) := by decide +kernel
theorem dX12_unpack_130 : decode cX12_unpack 130 = .ok (.iaload, 1) := by decide +kernel
theorem dX12_unpack_131 : decode cX12_unpack 131 = .ok (.goto 10, 3) := by decide +kernel
theorem dX12_unpack_134 : decode cX12_unpack 134 = .ok (.aload_n 1, 1) := by decide +kernel
theorem dX12_unpack_135 : decode cX12_unpack 135 = .ok (.iload 6, 2) := by decide +kernel
theorem dX12_unpack_137 : decode cX12_unpack 137 = .ok (.iload 10, 2) := by decide +kernel
theorem dX12_unpack_139 : decode cX12_unpack 139 = .ok (.iadd, 1) := by decide +kernel
theorem dX12_unpack_140 : decode cX12_unpack 140 = .ok (.iaload, 1) := by decide +kernel
theorem dX12_unpack_141 : decode cX12_unpack 141 = .ok (.iastore, 1) := by decide +kernel
theorem dX12_unpack_142 : decode cX12_unpack 142 = .ok (.iinc 10 1, 3) := by decide +kernel
theorem dX12_unpack_145 : decode cX12_unpack 145 = .ok (.goto (-39), 3) := by decide +kernel
theorem dX12_unpack_148 : decode cX12_unpack 148 = .ok (.iload 6, 2) := by decide +kernel
theorem dX12_unpack_150 : decode cX12_unpack 150 = .ok (.iload 8, 2) := by decide +kernel
theorem dX12_unpack_152 : decode cX12_unpack 152 = .ok (.ifCond .eq 7, 3) := by decide +kernel
theorem dX12_unpack_155 : decode cX12_unpack 155 = .ok (.iconst 1, 1) := by decide +kernel
theorem dX12_unpack_156 : decode cX12_unpack 156 = .ok (.goto 5, 3) := by decide +kernel
theorem dX12_unpack_159 : decode cX12_unpack 159 = .ok (.iload 9, 2) := by decide +kernel
theorem dX12_unpack_161 : decode cX12_unpack 161 = .ok (.iadd, 1) := by decide +kernel
theorem dX12_unpack_162 : decode cX12_unpack 162 = .ok (.istore 6, 2) := by decide +kernel
theorem dX12_unpack_164 : decode cX12_unpack 164 = .ok (.goto (-158), 3) := by decide +kernel
theorem dX12_unpack_167 : decode cX12_unpack 167 = .ok (.iload 5, 2) := by decide +kernel
theorem dX12_unpack_169 : decode cX12_unpack 169 = .ok (.ireturn, 1) := by decide +kernel
set_option maxRecDepth 20000 in
theorem ggX12_write_X12_isIn : GoodIn wsX12_write wsX12_isIn := goodIn_r _ [7] (by decide +kernel) (by decide +kernel)
set_option maxRecDepth 20000 in
theorem gX12_write_X12_isIn : GoodIn wsX12_write (va_wsS RX12 71 yX12_isIn wsX12_isIn) := goodIn_app (goodIn_of _ (by decide +kernel)) ggX12_write_X12_isIn
set_option maxRecDepth 20000 in
theorem ggX12_write_X12_no : GoodIn wsX12_write wsX12_no := goodIn_r _ [11, 1, 12, 13, 14, 15, 16, 17, 18, 19, 20, 21, 22, 23, 24, 25, 26, 27, 28, 29, 30, 31, 32, 33, 34, 35, 36] (by decide +kernel) (by decide +kernel)
set_option maxRecDepth 20000 in
theorem gX12_write_X12_no : GoodIn wsX12_write (wsV RX12 75 RX12 yX12_no wsX12_no) := goodIn_app (goodIn_of _ (by decide +kernel)) ggX12_write_X12_no
theorem dX12_write_0 : decode cX12_write 0 = .ok (.aload_n 0, 1) := by decide +kernel
theorem dX12_write_1 : decode cX12_write 1 = .ok (.iconst 0, 1) := by decide +kernel
theorem dX12_write_2 : decode cX12_write 2 = .ok (.putfield 59, 3) := by decide +kernel
theorem dX12_write_5 : decode cX12_write 5 = .ok (.iload_n 1, 1) := by decide +kernel
theorem dX12_write_6 : decode cX12_write 6 = .ok (.iconst 0, 1) := by decide +kernel
theorem dX12_write_7 : decode cX12_write 7 = .ok (.sipush 255, 3) := by decide +kernel
theorem dX12_write_10 : decode cX12_write 10 = .ok (.invokestatic 71, 3) := by decide +kernel
theorem dX12_write_13 : decode cX12_write 13 = .ok (.ifCond .eq 14, 3) := by decide +kernel
theorem dX12_write_16 : decode cX12_write 16 = .ok (.iload_n 2, 1) := by decide +kernel
theorem dX12_write_17 : decode cX12_write 17 = .ok (.iconst 1, 1) := by decide +kernel
theorem dX12_write_18 : decode cX12_write 18 = .ok (.sipush 200, 3) := by decide +kernel
theorem dX12_write_21 : decode cX12_write 21 = .ok (.invokestatic 71, 3) := by decide +kernel
theorem dX12_write_24 : decode cX12_write 24 = .ok (.ifCond .ne 9, 3) := by decide +kernel
theorem dX12_write_27 : decode cX12_write 27 = .ok (.aload_n 0, 1) := by decide +kernel
theorem dX12_write_28 : decode cX12_write 28 = .ok (.iconst 1, 1) := by decide +kernel
theorem dX12_write_29 : decode cX12_write 29 = .ok (.invokevirtual 75, 3) := by decide +kernel
theorem dX12_write_32 : decode cX12_write 32 = .ok (.ireturn, 1) := by decide +kernel
theorem dX12_write_33 : decode cX12_write 33 = .ok (.aload_n 0, 1) := by decide +kernel
theorem dX12_write_34 : decode cX12_write 34 = .ok (.getfield 91, 3) := by decide +kernel
theorem dX12_write_37 : decode cX12_write 37 = .ok (.iload_n 2, 1) := by decide +kernel
theorem dX12_write_38 : decode cX12_write 38 = .ok (.iadd, 1) := by decide +kernel
theorem dX12_write_39 : decode cX12_write 39 = .ok (.sipush 240, 3) := by decide +kernel
theorem dX12_write_42 : decode cX12_write 42 = .ok (.if_icmp .le 9, 3) := by decide +kernel
theorem dX12_write_45 : decode cX12_write 45 = .ok (.aload_n 0, 1) := by decide +kernel
theorem dX12_write_46 : decode cX12_write 46 = .ok (.iconst 2, 1) := by decide +kernel
theorem dX12_write_47 : decode cX12_write 47 = .ok (.invokevirtual 75, 3) := by decide +kernel
theorem dX12_write_50 : decode cX12_write 50 = .ok (.ireturn, 1) := by decide +kernel
theorem dX12_write_51 : decode cX12_write 51 = .ok (.iconst 0, 1) := by decide +kernel
theorem dX12_write_52 : decode cX12_write 52 = .ok (.istore_n 3, 1) := by decide +kernel
theorem dX12_write_53 : decode cX12_write 53 = .ok (.iload_n 3, 1) := by decide +kernel
theorem dX12_write_54 : decode cX12_write 54 = .ok (.iload_n 2, 1) := by decide +kernel
theorem dX12_write_55 : decode cX12_write 55 = .ok (.if_icmp .ge 26, 3) := by decide +kernel
theorem dX12_write_58 : decode cX12_write 58 = .ok (.aload_n 0, 1) := by decide +kernel
theorem dX12_write_59 : decode cX12_write 59 = .ok (.getfield 9, 3) := by decide +kernel
theorem dX12_write_62 : decode cX12_write 62 = .ok (.aload_n 0, 1) := by decide +kernel
theorem dX12_write_63 : decode cX12_write 63 = .ok (.dup, 1) := by decide +kernel
theorem dX12_write_64 : decode cX12_write 64 = .ok (.getfield 91, 3) := by decide +kernel
theorem dX12_write_67 : decode cX12_write 67 = .ok (.dup_x1, 1) := by decide +kernel
theorem dX12_write_68 : decode cX12_write 68 = .ok (.iconst 1, 1) := by decide +kernel
theorem dX12_write_69 : decode cX12_write 69 = .ok (.iadd, 1) := by decide +kernel
theorem dX12_write_70 : decode cX12_write 70 = .ok (.putfield 91, 3) := by decide +kernel
theorem dX12_write_73 : decode cX12_write 73 = .ok (.iload_n 1, 1) := by decide +kernel
theorem dX12_write_74 : decode cX12_write 74 = .ok (.iastore, 1) := by decide +kernel
theorem dX12_write_75 : decode cX12_write 75 = .ok (.iinc 3 1, 3) := by decide +kernel
theorem dX12_write_78 : decode cX12_write 78 = .ok (.goto (-25), 3) := by decide +kernel
theorem dX12_write_81 : decode cX12_write 81 = .ok (.aload_n 0, 1) := by decide +kernel
theorem dX12_write_82 : decode cX12_write 82 = .ok (.getfield 91, 3) := by decide +kernel
theorem dX12_write_85 : decode cX12_write 85 = .ok (.ireturn, 1) := by decide +kernel
set_option maxRecDepth 20000 in
theorem ggX12_noise_X12_isIn : GoodIn wsX12_noise wsX12_isIn := goodIn_r _ [9] (by decide +kernel) (by decide +kernel)
set_option maxRecDepth 20000 in
theorem gX12_noise_X12_isIn : GoodIn wsX12_noise (va_wsS RX12 71 yX12_isIn wsX12_isIn) := goodIn_app (goodIn_of _ (by decide +kernel)) ggX12_noise_X12_isIn
set_option maxRecDepth 20000 in
theorem ggX12_noise_X12_no : GoodIn wsX12_noise wsX12_no := goodIn_r _ [13, 1, 14, 15, 16, 17, 18, 19, 20, 21, 22, 23, 24, 25, 26, 27, 28, 29, 30, 31, 32, 33, 34, 35, 36, 37, 38] (by decide +kernel) (by decide +kernel)
set_option maxRecDepth 20000 in
theorem gX12_noise_X12_no : GoodIn wsX12_noise (wsV RX12 75 RX12 yX12_no wsX12_no) := goodIn_app (goodIn_of _ (by decide +kernel)) ggX12_noise_X12_no
theorem dX12_noise_0 : decode cX12_noise 0 = .ok (.aload_n 0, 1) := by decide +kernel
theorem dX12_noise_1 : decode cX12_noise 1 = .ok (.iconst 0, 1) := by decide +kernel
theorem dX12_noise_2 : decode cX12_noise 2 = .ok (.putfield 59, 3) := by decide +kernel
theorem dX12_noise_5 : decode cX12_noise 5 = .ok (.iload_n 1, 1) := by decide +kernel
theorem dX12_noise_6 : decode cX12_noise 6 = .ok (.iconst 0, 1) := by decide +kernel
theorem dX12_noise_7 : decode cX12_noise 7 = .ok (.ldc 83, 2) := by decide +kernel
theorem dX12_noise_9 : decode cX12_noise 9 = .ok (.invokestatic 71, 3) := by decide +kernel
theorem dX12_noise_12 : decode cX12_noise 12 = .ok (.ifCond .eq 14, 3) := by decide +kernel
theorem dX12_noise_15 : decode cX12_noise 15 = .ok (.iload_n 2, 1) := by decide +kernel
theorem dX12_noise_16 : decode cX12_noise 16 = .ok (.iconst 1, 1) := by decide +kernel
theorem dX12_noise_17 : decode cX12_noise 17 = .ok (.sipush 240, 3) := by decide +kernel
theorem dX12_noise_20 : decode cX12_noise 20 = .ok (.invokestatic 71, 3) := by decide +kernel
theorem dX12_noise_23 : decode cX12_noise 23 = .ok (.ifCond .ne 9, 3) := by decide +kernel
theorem dX12_noise_26 : decode cX12_noise 26 = .ok (.aload_n 0, 1) := by decide +kernel
theorem dX12_noise_27 : decode cX12_noise 27 = .ok (.iconst 1, 1) := by decide +kernel
theorem dX12_noise_28 : decode cX12_noise 28 = .ok (.invokevirtual 75, 3) := by decide +kernel
theorem dX12_noise_31 : decode cX12_noise 31 = .ok (.ireturn, 1) := by decide +kernel
theorem dX12_noise_32 : decode cX12_noise 32 = .ok (.aload_n 0, 1) := by decide +kernel
theorem dX12_noise_33 : decode cX12_noise 33 = .ok (.getfield 91, 3) := by decide +kernel
theorem dX12_noise_36 : decode cX12_noise 36 = .ok (.iload_n 2, 1) := by decide +kernel
theorem dX12_noise_37 : decode cX12_noise 37 = .ok (.iadd, 1) := by decide +kernel
theorem dX12_noise_38 : decode cX12_noise 38 = .ok (.sipush 240, 3) := by decide +kernel
theorem dX12_noise_41 : decode cX12_noise 41 = .ok (.if_icmp .le 9, 3) := by decide +kernel
theorem dX12_noise_44 : decode cX12_noise 44 = .ok (.aload_n 0, 1) := by decide +kernel
theorem dX12_noise_45 : decode cX12_noise 45 = .ok (.iconst 2, 1) := by decide +kernel
theorem dX12_noise_46 : decode cX12_noise 46 = .ok (.invokevirtual 75, 3) := by decide +kernel
theorem dX12_noise_49 : decode cX12_noise 49 = .ok (.ireturn, 1) := by decide +kernel
theorem dX12_noise_50 : decode cX12_noise 50 = .ok (.iload_n 1, 1) := by decide +kernel
theorem dX12_noise_51 : decode cX12_noise 51 = .ok (.istore_n 3, 1) := by decide +kernel
theorem dX12_noise_52 : decode cX12_noise 52 = .ok (.iconst 0, 1) := by decide +kernel
theorem dX12_noise_53 : decode cX12_noise 53 = .ok (.istore 4, 2) := by decide +kernel
theorem dX12_noise_55 : decode cX12_noise 55 = .ok (.iload 4, 2) := by decide +kernel
theorem dX12_noise_57 : decode cX12_noise 57 = .ok (.iload_n 2, 1) := by decide +kernel
theorem dX12_noise_58 : decode cX12_noise 58 = .ok (.if_icmp .ge 41, 3) := by decide +kernel
theorem dX12_noise_61 : decode cX12_noise 61 = .ok (.iload_n 3, 1) := by decide +kernel
theorem dX12_noise_62 : decode cX12_noise 62 = .ok (.bipush 75, 2) := by decide +kernel
theorem dX12_noise_64 : decode cX12_noise 64 = .ok (.imul, 1) := by decide +kernel
theorem dX12_noise_65 : decode cX12_noise 65 = .ok (.bipush 74, 2) := by decide +kernel
theorem dX12_noise_67 : decode cX12_noise 67 = .ok (.iadd, 1) := by decide +kernel
theorem dX12_noise_68 : decode cX12_noise 68 = .ok (.ldc 94, 2) := by decide +kernel
theorem dX12_noise_70 : decode cX12_noise 70 = .ok (.irem, 1) := by decide +kernel
theorem dX12_noise_71 : decode cX12_noise 71 = .ok (.istore_n 3, 1) := by decide +kernel
theorem dX12_noise_72 : decode cX12_noise 72 = .ok (.aload_n 0, 1) := by decide +kernel
theorem dX12_noise_73 : decode cX12_noise 73 = .ok (.getfield 9, 3) := by decide +kernel
theorem dX12_noise_76 : decode cX12_noise 76 = .ok (.aload_n 0, 1) := by decide +kernel
theorem dX12_noise_77 : decode cX12_noise 77 = .ok (.dup, 1) := by decide +kernel
theorem dX12_noise_78 : decode cX12_noise 78 = .ok (.getfield 91, 3) := by decide +kernel
theorem dX12_noise_81 : decode cX12_noise 81 = .ok (.dup_x1, 1) := by decide +kernel
theorem dX12_noise_82 : decode cX12_noise 82 = .ok (.iconst 1, 1) := by decide +kernel
theorem dX12_noise_83 : decode cX12_noise 83 = .ok (.iadd, 1) := by decide +kernel
theorem dX12_noise_84 : decode cX12_noise 84 = .ok (.putfield 91, 3) := by decide +kernel
theorem dX12_noise_87 : decode cX12_noise 87 = .ok (.iload_n 3, 1) := by decide +kernel
theorem dX12_noise_88 : decode cX12_noise 88 = .ok (.sipush 256, 3) := by decide +kernel
theorem dX12_noise_91 : decode cX12_noise 91 = .ok (.irem, 1) := by decide +kernel
theorem dX12_noise_92 : decode cX12_noise 92 = .ok (.iastore, 1) := by decide +kernel
theorem dX12_noise_93 : decode cX12_noise 93 = .ok (.iinc 4 1, 3) := by decide +kernel
theorem dX12_noise_96 : decode cX12_noise 96 = .ok (.goto (-41), 3) := by decide +kernel
theorem dX12_noise_99 : decode cX12_noise 99 = .ok (.aload_n 0, 1) := by decide +kernel
theorem dX12_noise_100 : decode cX12_noise 100 = .ok (.getfield 91, 3) := by decide +kernel
theorem dX12_noise_103 : decode cX12_noise 103 = .ok (.ireturn, 1) := by decide +kernel
set_option maxRecDepth 20000 in
theorem ggX12_cutSheet_X12_isIn : GoodIn wsX12_cutSheet wsX12_isIn := goodIn_r _ [6] (by decide +kernel) (by decide +kernel)
set_option maxRecDepth 20000 in
theorem gX12_cutSheet_X12_isIn : GoodIn wsX12_cutSheet (va_wsS RX12 71 yX12_isIn wsX12_isIn) := goodIn_app (goodIn_of _ (by decide +kernel)) ggX12_cutSheet_X12_isIn
set_option maxRecDepth 20000 in
theorem ggX12_cutSheet_X12_no : GoodIn wsX12_cutSheet wsX12_no := goodIn_r _ [10, 1, 11, 12, 13, 14, 15, 16, 17, 18, 19, 20, 21, 22, 23, 24, 25, 26, 27, 28, 29, 30, 31, 32, 33, 34, 35] (by decide +kernel) (by decide +kernel)
set_option maxRecDepth 20000 in
theorem gX12_cutSheet_X12_no : GoodIn wsX12_cutSheet (wsV RX12 75 RX12 yX12_no wsX12_no) := goodIn_app (goodIn_of _ (by decide +kernel)) ggX12_cutSheet_X12_no
theorem dX12_cutSheet_0 : decode cX12_cutSheet 0 = .ok (.aload_n 0, 1) := by decide +kernel
theorem dX12_cutSheet_1 : decode cX12_cutSheet 1 = .ok (.iconst 0, 1) := by decide +kernel
theorem dX12_cutSheet_2 : decode cX12_cutSheet 2 = .ok (.putfield 59, 3) := by decide +kernel
theorem dX12_cutSheet_5 : decode cX12_cutSheet 5 = .ok (.iload_n 1, 1) := by decide +kernel
theorem dX12_cutSheet_6 : decode cX12_cutSheet 6 = .ok (.iconst 0, 1) := by decide +kernel
theorem dX12_cutSheet_7 : decode cX12_cutSheet 7 = .ok (.aload_n 0, 1) := by decide +kernel
theorem dX12_cutSheet_8 : decode cX12_cutSheet 8 = .ok (.getfield 91, 3) := by decide +kernel
theorem dX12_cutSheet_11 : decode cX12_cutSheet 11 = .ok (.invokestatic 71, 3) := by decide +kernel
theorem dX12_cutSheet_14 : decode cX12_cutSheet 14 = .ok (.ifCond .ne 9, 3) := by decide +kernel
theorem dX12_cutSheet_17 : decode cX12_cutSheet 17 = .ok (.aload_n 0, 1) := by decide +kernel
theorem dX12_cutSheet_18 : decode cX12_cutSheet 18 = .ok (.iconst 1, 1) := by decide +kernel
theorem dX12_cutSheet_19 : decode cX12_cutSheet 19 = .ok (.invokevirtual 75, 3) := by decide +kernel
theorem dX12_cutSheet_22 : decode cX12_cutSheet 22 = .ok (.ireturn, 1) := by decide +kernel
theorem dX12_cutSheet_23 : decode cX12_cutSheet 23 = .ok (.aload_n 0, 1) := by decide +kernel
theorem dX12_cutSheet_24 : decode cX12_cutSheet 24 = .ok (.getfield 91, 3) := by decide +kernel
theorem dX12_cutSheet_27 : decode cX12_cutSheet 27 = .ok (.istore_n 2, 1) := by decide +kernel
theorem dX12_cutSheet_28 : decode cX12_cutSheet 28 = .ok (.aload_n 0, 1) := by decide +kernel
theorem dX12_cutSheet_29 : decode cX12_cutSheet 29 = .ok (.iload_n 1, 1) := by decide +kernel
theorem dX12_cutSheet_30 : decode cX12_cutSheet 30 = .ok (.putfield 91, 3) := by decide +kernel
theorem dX12_cutSheet_33 : decode cX12_cutSheet 33 = .ok (.iload_n 2, 1) := by decide +kernel
theorem dX12_cutSheet_34 : decode cX12_cutSheet 34 = .ok (.ireturn, 1) := by decide +kernel
theorem dX12_placeOf_0 : decode cX12_placeOf 0 = .ok (.iconst 0, 1) := by decide +kernel
theorem dX12_placeOf_1 : decode cX12_placeOf 1 = .ok (.istore_n 2, 1) := by decide +kernel
theorem dX12_placeOf_2 : decode cX12_placeOf 2 = .ok (.iload_n 2, 1) := by decide +kernel
theorem dX12_placeOf_3 : decode cX12_placeOf 3 = .ok (.aload_n 0, 1) := by decide +kernel
theorem dX12_placeOf_4 : decode cX12_placeOf 4 = .ok (.getfield 95, 3) := by decide +kernel
theorem dX12_placeOf_7 : decode cX12_placeOf 7 = .ok (.if_icmp .ge 21, 3) := by decide +kernel
theorem dX12_placeOf_10 : decode cX12_placeOf 10 = .ok (.aload_n 0, 1) := by decide +kernel
theorem dX12_placeOf_11 : decode cX12_placeOf 11 = .ok (.getfield 13, 3) := by decide +kernel
theorem dX12_placeOf_14 : decode cX12_placeOf 14 = .ok (.iload_n 2, 1) := by decide +kernel
theorem dX12_placeOf_15 : decode cX12_placeOf 15 = .ok (.iaload, 1) := by decide +kernel
theorem dX12_placeOf_16 : decode cX12_placeOf 16 = .ok (.iload_n 1, 1) := by decide +kernel
theorem dX12_placeOf_17 : decode cX12_placeOf 17 = .ok (.if_icmp .ne 5, 3) := by decide +kernel
theorem dX12_placeOf_20 : decode cX12_placeOf 20 = .ok (.iload_n 2, 1) := by decide +kernel
theorem dX12_placeOf_21 : decode cX12_placeOf 21 = .ok (.ireturn, 1) := by decide +kernel
theorem dX12_placeOf_22 : decode cX12_placeOf 22 = .ok (.iinc 2 1, 3) := by decide +kernel
theorem dX12_placeOf_25 : decode cX12_placeOf 25 = .ok (.goto (-23), 3) := by decide +kernel
theorem dX12_placeOf_28 : decode cX12_placeOf 28 = .ok (.iconst (-1), 1) := by decide +kernel
theorem dX12_placeOf_29 : decode cX12_placeOf 29 = .ok (.ireturn, 1) := by decide +kernel
theorem dX12_move_0 : decode cX12_move 0 = .ok (.aload_n 0, 1) := by decide +kernel
theorem dX12_move_1 : decode cX12_move 1 = .ok (.getfield 13, 3) := by decide +kernel
theorem dX12_move_4 : decode cX12_move 4 = .ok (.iload_n 1, 1) := by decide +kernel
theorem dX12_move_5 : decode cX12_move 5 = .ok (.aload_n 0, 1) := by decide +kernel
theorem dX12_move_6 : decode cX12_move 6 = .ok (.getfield 13, 3) := by decide +kernel
theorem dX12_move_9 : decode cX12_move 9 = .ok (.iload_n 2, 1) := by decide +kernel
theorem dX12_move_10 : decode cX12_move 10 = .ok (.iaload, 1) := by decide +kernel
theorem dX12_move_11 : decode cX12_move 11 = .ok (.iastore, 1) := by decide +kernel
theorem dX12_move_12 : decode cX12_move 12 = .ok (.aload_n 0, 1) := by decide +kernel
theorem dX12_move_13 : decode cX12_move 13 = .ok (.getfield 16, 3) := by decide +kernel
theorem dX12_move_16 : decode cX12_move 16 = .ok (.iload_n 1, 1) := by decide +kernel
theorem dX12_move_17 : decode cX12_move 17 = .ok (.aload_n 0, 1) := by decide +kernel
theorem dX12_move_18 : decode cX12_move 18 = .ok (.getfield 16, 3) := by decide +kernel
theorem dX12_move_21 : decode cX12_move 21 = .ok (.iload_n 2, 1) := by decide +kernel
theorem dX12_move_22 : decode cX12_move 22 = .ok (.iaload, 1) := by decide +kernel
theorem dX12_move_23 : decode cX12_move 23 = .ok (.iastore, 1) := by decide +kernel
theorem dX12_move_24 : decode cX12_move 24 = .ok (.aload_n 0, 1) := by decide +kernel
theorem dX12_move_25 : decode cX12_move 25 = .ok (.getfield 21, 3) := by decide +kernel
theorem dX12_move_28 : decode cX12_move 28 = .ok (.iload_n 2, 1) := by decide +kernel
theorem dX12_move_29 : decode cX12_move 29 = .ok (.aaload, 1) := by decide +kernel
theorem dX12_move_30 : decode cX12_move 30 = .ok (.iconst 0, 1) := by decide +kernel
theorem dX12_move_31 : decode cX12_move 31 = .ok (.aload_n 0, 1) := by decide +kernel
theorem dX12_move_32 : decode cX12_move 32 = .ok (.getfield 21, 3) := by decide +kernel
theorem dX12_move_35 : decode cX12_move 35 = .ok (.iload_n 1, 1) := by decide +kernel
theorem dX12_move_36 : decode cX12_move 36 = .ok (.aaload, 1) := by decide +kernel
theorem dX12_move_37 : decode cX12_move 37 = .ok (.iconst 0, 1) := by decide +kernel
theorem dX12_move_38 : decode cX12_move 38 = .ok (.sipush 240, 3) := by decide +kernel
theorem dX12_move_41 : decode cX12_move 41 = .ok (.invokestatic 98, 3) := by decide +kernel
theorem dX12_move_44 : decode cX12_move 44 = .ok (.return_, 1) := by decide +kernel
set_option maxRecDepth 20000 in
theorem ggX12_put_X12_placeOf : GoodIn wsX12_put wsX12_placeOf := goodIn_r _ [13, 1, 2, 18, 19, 20, 21, 22, 23, 24, 25, 26, 27, 28, 29, 30, 31, 32, 33, 34, 35, 36, 37, 38, 39, 40, 41, 42] (by decide +kernel) (by decide +kernel)
set_option maxRecDepth 20000 in
theorem gX12_put_X12_placeOf : GoodIn wsX12_put (wsV RX12 104 RX12 yX12_placeOf wsX12_placeOf) := goodIn_app (goodIn_of _ (by decide +kernel)) ggX12_put_X12_placeOf
set_option maxRecDepth 20000 in
theorem ggX12_put_X12_move : GoodIn wsX12_put wsX12_move := goodIn_r _ [17, 2, 3, 4, 5, 6, 7, 8, 18, 19, 20, 21, 22, 23, 24, 25, 26, 27, 28, 29, 30, 31, 32, 33, 34, 35, 36, 37, 38, 39, 40, 41, 42] (by decide +kernel) (by decide +kernel)
set_option maxRecDepth 20000 in
theorem gX12_put_X12_move : GoodIn wsX12_put (wsV RX12 107 RX12 yX12_move wsX12_move) := goodIn_app (goodIn_of _ (by decide +kernel)) ggX12_put_X12_move
theorem dX12_put_0 : decode cX12_put 0 = .ok (.aload_n 0, 1) := by decide +kernel
theorem dX12_put_1 : decode cX12_put 1 = .ok (.iload_n 1, 1) := by decide +kernel
theorem dX12_put_2 : decode cX12_put 2 = .ok (.invokevirtual 104, 3) := by decide +kernel
theorem dX12_put_5 : decode cX12_put 5 = .ok (.istore 4, 2) := by decide +kernel
theorem dX12_put_7 : decode cX12_put 7 = .ok (.iload 4, 2) := by decide +kernel
theorem dX12_put_9 : decode cX12_put 9 = .ok (.iconst (-1), 1) := by decide +kernel
theorem dX12_put_10 : decode cX12_put 10 = .ok (.if_icmp .ne 50, 3) := by decide +kernel
theorem dX12_put_13 : decode cX12_put 13 = .ok (.aload_n 0, 1) := by decide +kernel
theorem dX12_put_14 : decode cX12_put 14 = .ok (.dup, 1) := by decide +kernel
theorem dX12_put_15 : decode cX12_put 15 = .ok (.getfield 95, 3) := by decide +kernel
theorem dX12_put_18 : decode cX12_put 18 = .ok (.dup_x1, 1) := by decide +kernel
theorem dX12_put_19 : decode cX12_put 19 = .ok (.iconst 1, 1) := by decide +kernel
theorem dX12_put_20 : decode cX12_put 20 = .ok (.iadd, 1) := by decide +kernel
theorem dX12_put_21 : decode cX12_put 21 = .ok (.putfield 95, 3) := by decide +kernel
theorem dX12_put_24 : decode cX12_put 24 = .ok (.istore 4, 2) := by decide +kernel
theorem dX12_put_26 : decode cX12_put 26 = .ok (.iload 4, 2) := by decide +kernel
theorem dX12_put_28 : decode cX12_put 28 = .ok (.ifCond .le 32, 3) := by decide +kernel
theorem dX12_put_31 : decode cX12_put 31 = .ok (.aload_n 0, 1) := by decide +kernel
theorem dX12_put_32 : decode cX12_put 32 = .ok (.getfield 13, 3) := by decide +kernel
theorem dX12_put_35 : decode cX12_put 35 = .ok (.iload 4, 2) := by decide +kernel
theorem dX12_put_37 : decode cX12_put 37 = .ok (.iconst 1, 1) := by decide +kernel
theorem dX12_put_38 : decode cX12_put 38 = .ok (.isub, 1) := by decide +kernel
theorem dX12_put_39 : decode cX12_put 39 = .ok (.iaload, 1) := by decide +kernel
theorem dX12_put_40 : decode cX12_put 40 = .ok (.iload_n 1, 1) := by decide +kernel
theorem dX12_put_41 : decode cX12_put 41 = .ok (.if_icmp .le 19, 3) := by decide +kernel
theorem dX12_put_44 : decode cX12_put 44 = .ok (.aload_n 0, 1) := by decide +kernel
theorem dX12_put_45 : decode cX12_put 45 = .ok (.iload 4, 2) := by decide +kernel
theorem dX12_put_47 : decode cX12_put 47 = .ok (.iload 4, 2) := by decide +kernel
theorem dX12_put_49 : decode cX12_put 49 = .ok (.iconst 1, 1) := by decide +kernel
theorem dX12_put_50 : decode cX12_put 50 = .ok (.isub, 1) := by decide +kernel
theorem dX12_put_51 : decode cX12_put 51 = .ok (.invokevirtual 107, 3) := by decide +kernel
theorem dX12_put_54 : decode cX12_put 54 = .ok (.iinc 4 (-1), 3) := by decide +kernel
theorem dX12_put_57 : decode cX12_put 57 = .ok (.goto (-31), 3) := by decide +kernel
theorem dX12_put_60 : decode cX12_put 60 = .ok (.aload_n 0, 1) := by decide +kernel
theorem dX12_put_61 : decode cX12_put 61 = .ok (.getfield 13, 3) := by decide +kernel
theorem dX12_put_64 : decode cX12_put 64 = .ok (.iload 4, 2) := by decide +kernel
theorem dX12_put_66 : decode cX12_put 66 = .ok (.iload_n 1, 1) := by decide +kernel
theorem dX12_put_67 : decode cX12_put 67 = .ok (.iastore, 1) := by decide +kernel
theorem dX12_put_68 : decode cX12_put 68 = .ok (.aload_n 0, 1) := by decide +kernel
theorem dX12_put_69 : decode cX12_put 69 = .ok (.getfield 16, 3) := by decide +kernel
theorem dX12_put_72 : decode cX12_put 72 = .ok (.iload 4, 2) := by decide +kernel
theorem dX12_put_74 : decode cX12_put 74 = .ok (.iload_n 3, 1) := by decide +kernel
theorem dX12_put_75 : decode cX12_put 75 = .ok (.iastore, 1) := by decide +kernel
theorem dX12_put_76 : decode cX12_put 76 = .ok (.aload_n 2, 1) := by decide +kernel
theorem dX12_put_77 : decode cX12_put 77 = .ok (.iconst 0, 1) := by decide +kernel
theorem dX12_put_78 : decode cX12_put 78 = .ok (.aload_n 0, 1) := by decide +kernel
theorem dX12_put_79 : decode cX12_put 79 = .ok (.getfield 21, 3) := by decide +kernel
theorem dX12_put_82 : decode cX12_put 82 = .ok (.iload 4, 2) := by decide +kernel
theorem dX12_put_84 : decode cX12_put 84 = .ok (.aaload, 1) := by decide +kernel
theorem dX12_put_85 : decode cX12_put 85 = .ok (.iconst 0, 1) := by decide +kernel
theorem dX12_put_86 : decode cX12_put 86 = .ok (.iload_n 3, 1) := by decide +kernel
theorem dX12_put_87 : decode cX12_put 87 = .ok (.invokestatic 98, 3) := by decide +kernel
theorem dX12_put_90 : decode cX12_put 90 = .ok (.return_, 1) := by decide +kernel
set_option maxRecDepth 20000 in
theorem ggX12_store_X12_isIn : GoodIn wsX12_store wsX12_isIn := goodIn_r _ [9] (by decide +kernel) (by decide +kernel)
set_option maxRecDepth 20000 in
theorem gX12_store_X12_isIn : GoodIn wsX12_store (va_wsS RX12 71 yX12_isIn wsX12_isIn) := goodIn_app (goodIn_of _ (by decide +kernel)) ggX12_store_X12_isIn
set_option maxRecDepth 20000 in
theorem ggX12_store_X12_no : GoodIn wsX12_store wsX12_no := goodIn_r _ [13, 1, 33, 34, 35, 36, 37, 38, 39, 40, 41, 42, 43, 44, 45, 46, 47, 48, 49, 50, 51, 52, 53, 54, 55, 56, 57] (by decide +kernel) (by decide +kernel)
set_option maxRecDepth 20000 in
theorem gX12_store_X12_no : GoodIn wsX12_store (wsV RX12 75 RX12 yX12_no wsX12_no) := goodIn_app (goodIn_of _ (by decide +kernel)) ggX12_store_X12_no
set_option maxRecDepth 20000 in
theorem ggX12_store_X12_placeOf : GoodIn wsX12_store wsX12_placeOf := goodIn_r _ [17, 3, 18, 33, 34, 35, 36, 37, 38, 39, 40, 41, 42, 43, 44, 45, 46, 47, 48, 49, 50, 51, 52, 53, 54, 55, 56, 57] (by decide +kernel) (by decide +kernel)
set_option maxRecDepth 20000 in
theorem gX12_store_X12_placeOf : GoodIn wsX12_store (wsV RX12 104 RX12 yX12_placeOf wsX12_placeOf) := goodIn_app (goodIn_of _ (by decide +kernel)) ggX12_store_X12_placeOf
set_option maxRecDepth 20000 in
theorem ggX12_store_X12_put : GoodIn wsX12_store wsX12_put := goodIn_r _ [22, 3, 18, 23, 24, 25, 26, 27, 28, 14, 15, 16, 8, 17, 29, 30, 31, 32, 33, 34, 35, 36, 37, 38, 39, 40, 41, 42, 43, 44, 45, 46, 47, 48, 49, 50, 51, 52, 53, 54, 55, 56, 57] (by decide +kernel) (by decide +kernel)
set_option maxRecDepth 20000 in
theorem gX12_store_X12_put : GoodIn wsX12_store (wsV RX12 111 RX12 yX12_put wsX12_put) := goodIn_app (goodIn_of _ (by decide +kernel)) ggX12_store_X12_put
theorem dX12_store_0 : decode cX12_store 0 = .ok (.aload_n 0, 1) := by decide +kernel
theorem dX12_store_1 : decode cX12_store 1 = .ok (.iconst 0, 1) := by decide +kernel
theorem dX12_store_2 : decode cX12_store 2 = .ok (.putfield 59, 3) := by decide +kernel
theorem dX12_store_5 : decode cX12_store 5 = .ok (.iload_n 1, 1) := by decide +kernel
theorem dX12_store_6 : decode cX12_store 6 = .ok (.iconst 0, 1) := by decide +kernel
theorem dX12_store_7 : decode cX12_store 7 = .ok (.ldc 83, 2) := by decide +kernel
theorem dX12_store_9 : decode cX12_store 9 = .ok (.invokestatic 71, 3) := by decide +kernel
theorem dX12_store_12 : decode cX12_store 12 = .ok (.ifCond .ne 9, 3) := by decide +kernel
theorem dX12_store_15 : decode cX12_store 15 = .ok (.aload_n 0, 1) := by decide +kernel
theorem dX12_store_16 : decode cX12_store 16 = .ok (.iconst 1, 1) := by decide +kernel
theorem dX12_store_17 : decode cX12_store 17 = .ok (.invokevirtual 75, 3) := by decide +kernel
theorem dX12_store_20 : decode cX12_store 20 = .ok (.ireturn, 1) := by decide +kernel
theorem dX12_store_21 : decode cX12_store 21 = .ok (.aload_n 0, 1) := by decide +kernel
theorem dX12_store_22 : decode cX12_store 22 = .ok (.getfield 95, 3) := by decide +kernel
theorem dX12_store_25 : decode cX12_store 25 = .ok (.bipush 16, 2) := by decide +kernel
theorem dX12_store_27 : decode cX12_store 27 = .ok (.if_icmp .ne 18, 3) := by decide +kernel
theorem dX12_store_30 : decode cX12_store 30 = .ok (.aload_n 0, 1) := by decide +kernel
theorem dX12_store_31 : decode cX12_store 31 = .ok (.iload_n 1, 1) := by decide +kernel
theorem dX12_store_32 : decode cX12_store 32 = .ok (.invokevirtual 104, 3) := by decide +kernel
theorem dX12_store_35 : decode cX12_store 35 = .ok (.iconst (-1), 1) := by decide +kernel
theorem dX12_store_36 : decode cX12_store 36 = .ok (.if_icmp .ne 9, 3) := by decide +kernel
theorem dX12_store_39 : decode cX12_store 39 = .ok (.aload_n 0, 1) := by decide +kernel
theorem dX12_store_40 : decode cX12_store 40 = .ok (.iconst 2, 1) := by decide +kernel
theorem dX12_store_41 : decode cX12_store 41 = .ok (.invokevirtual 75, 3) := by decide +kernel
theorem dX12_store_44 : decode cX12_store 44 = .ok (.ireturn, 1) := by decide +kernel
theorem dX12_store_45 : decode cX12_store 45 = .ok (.aload_n 0, 1) := by decide +kernel
theorem dX12_store_46 : decode cX12_store 46 = .ok (.iload_n 1, 1) := by decide +kernel
theorem dX12_store_47 : decode cX12_store 47 = .ok (.aload_n 0, 1) := by decide +kernel
theorem dX12_store_48 : decode cX12_store 48 = .ok (.getfield 9, 3) := by decide +kernel
theorem dX12_store_51 : decode cX12_store 51 = .ok (.aload_n 0, 1) := by decide +kernel
theorem dX12_store_52 : decode cX12_store 52 = .ok (.getfield 91, 3) := by decide +kernel
theorem dX12_store_55 : decode cX12_store 55 = .ok (.invokevirtual 111, 3) := by decide +kernel
theorem dX12_store_58 : decode cX12_store 58 = .ok (.aload_n 0, 1) := by decide +kernel
theorem dX12_store_59 : decode cX12_store 59 = .ok (.iconst 0, 1) := by decide +kernel
theorem dX12_store_60 : decode cX12_store 60 = .ok (.putfield 91, 3) := by decide +kernel
theorem dX12_store_63 : decode cX12_store 63 = .ok (.aload_n 0, 1) := by decide +kernel
theorem dX12_store_64 : decode cX12_store 64 = .ok (.getfield 95, 3) := by decide +kernel
theorem dX12_store_67 : decode cX12_store 67 = .ok (.ireturn, 1) := by decide +kernel
set_option maxRecDepth 20000 in
theorem ggX12_remove_X12_placeOf : GoodIn wsX12_remove wsX12_placeOf := goodIn_r _ [8, 3, 9, 19, 20, 21, 22, 23, 24, 25, 26, 27, 28, 29, 30, 31, 32, 33, 34, 35, 36, 37, 38, 39, 40, 41, 42, 43] (by decide +kernel) (by decide +kernel)
set_option maxRecDepth 20000 in
theorem gX12_remove_X12_placeOf : GoodIn wsX12_remove (wsV RX12 104 RX12 yX12_placeOf wsX12_placeOf) := goodIn_app (goodIn_of _ (by decide +kernel)) ggX12_remove_X12_placeOf
set_option maxRecDepth 20000 in
theorem ggX12_remove_X12_move : GoodIn wsX12_remove wsX12_move := goodIn_r _ [13, 9, 2, 14, 15, 16, 17, 18, 19, 20, 21, 22, 23, 24, 25, 26, 27, 28, 29, 30, 31, 32, 33, 34, 35, 36, 37, 38, 39, 40, 41, 42, 43] (by decide +kernel) (by decide +kernel)
set_option maxRecDepth 20000 in
theorem gX12_remove_X12_move : GoodIn wsX12_remove (wsV RX12 107 RX12 yX12_move wsX12_move) := goodIn_app (goodIn_of _ (by decide +kernel)) ggX12_remove_X12_move
theorem dX12_remove_0 : decode cX12_remove 0 = .ok (.aload_n 0, 1) := by decide +kernel
theorem dX12_remove_1 : decode cX12_remove 1 = .ok (.iconst 0, 1) := by decide +kernel
theorem dX12_remove_2 : decode cX12_remove 2 = .ok (.putfield 59, 3) := by decide +kernel
theorem dX12_remove_5 : decode cX12_remove 5 = .ok (.aload_n 0, 1) := by decide +kernel
theorem dX12_remove_6 : decode cX12_remove 6 = .ok (.iload_n 1, 1) := by decide +kernel
theorem dX12_remove_7 : decode cX12_remove 7 = .ok (.invokevirtual 104, 3) := by decide +kernel
theorem dX12_remove_10 : decode cX12_remove 10 = .ok (.istore_n 2, 1) := by decide +kernel
theorem dX12_remove_11 : decode cX12_remove 11 = .ok (.iload_n 2, 1) := by decide +kernel
theorem dX12_remove_12 : decode cX12_remove 12 = .ok (.iconst (-1), 1) := by decide +kernel
theorem dX12_remove_13 : decode cX12_remove 13 = .ok (.if_icmp .ne 5, 3) := by decide +kernel
theorem dX12_remove_16 : decode cX12_remove 16 = .ok (.iconst (-1), 1) := by decide +kernel
theorem dX12_remove_17 : decode cX12_remove 17 = .ok (.ireturn, 1) := by decide +kernel
theorem dX12_remove_18 : decode cX12_remove 18 = .ok (.aload_n 0, 1) := by decide +kernel
theorem dX12_remove_19 : decode cX12_remove 19 = .ok (.getfield 16, 3) := by decide +kernel
theorem dX12_remove_22 : decode cX12_remove 22 = .ok (.iload_n 2, 1) := by decide +kernel
theorem dX12_remove_23 : decode cX12_remove 23 = .ok (.iaload, 1) := by decide +kernel
theorem dX12_remove_24 : decode cX12_remove 24 = .ok (.istore_n 3, 1) := by decide +kernel
theorem dX12_remove_25 : decode cX12_remove 25 = .ok (.aload_n 0, 1) := by decide +kernel
theorem dX12_remove_26 : decode cX12_remove 26 = .ok (.dup, 1) := by decide +kernel
theorem dX12_remove_27 : decode cX12_remove 27 = .ok (.getfield 95, 3) := by decide +kernel
theorem dX12_remove_30 : decode cX12_remove 30 = .ok (.iconst 1, 1) := by decide +kernel
theorem dX12_remove_31 : decode cX12_remove 31 = .ok (.isub, 1) := by decide +kernel
theorem dX12_remove_32 : decode cX12_remove 32 = .ok (.putfield 95, 3) := by decide +kernel
theorem dX12_remove_35 : decode cX12_remove 35 = .ok (.iload_n 2, 1) := by decide +kernel
theorem dX12_remove_36 : decode cX12_remove 36 = .ok (.istore 4, 2) := by decide +kernel
theorem dX12_remove_38 : decode cX12_remove 38 = .ok (.iload 4, 2) := by decide +kernel
theorem dX12_remove_40 : decode cX12_remove 40 = .ok (.aload_n 0, 1) := by decide +kernel
theorem dX12_remove_41 : decode cX12_remove 41 = .ok (.getfield 95, 3) := by decide +kernel
theorem dX12_remove_44 : decode cX12_remove 44 = .ok (.if_icmp .ge 19, 3) := by decide +kernel
theorem dX12_remove_47 : decode cX12_remove 47 = .ok (.aload_n 0, 1) := by decide +kernel
theorem dX12_remove_48 : decode cX12_remove 48 = .ok (.iload 4, 2) := by decide +kernel
theorem dX12_remove_50 : decode cX12_remove 50 = .ok (.iload 4, 2) := by decide +kernel
theorem dX12_remove_52 : decode cX12_remove 52 = .ok (.iconst 1, 1) := by decide +kernel
theorem dX12_remove_53 : decode cX12_remove 53 = .ok (.iadd, 1) := by decide +kernel
theorem dX12_remove_54 : decode cX12_remove 54 = .ok (.invokevirtual 107, 3) := by decide +kernel
theorem dX12_remove_57 : decode cX12_remove 57 = .ok (.iinc 4 1, 3) := by decide +kernel
theorem dX12_remove_60 : decode cX12_remove 60 = .ok (.goto (-22), 3) := by decide +kernel
theorem dX12_remove_63 : decode cX12_remove 63 = .ok (.iload_n 3, 1) := by decide +kernel
theorem dX12_remove_64 : decode cX12_remove 64 = .ok (.ireturn, 1) := by decide +kernel
set_option maxRecDepth 20000 in
theorem ggX12_files_X12_ok : GoodIn wsX12_files wsX12_ok := goodIn_r _ [6, 7, 8, 9, 10, 11, 12, 13, 14, 15, 16, 17, 18, 19, 20, 21, 22, 23, 24, 25, 26, 27, 28, 29, 30, 31, 32] (by decide +kernel) (by decide +kernel)
set_option maxRecDepth 20000 in
theorem gX12_files_X12_ok : GoodIn wsX12_files (wsV RX12 115 RX12 yX12_ok wsX12_ok) := goodIn_app (goodIn_of _ (by decide +kernel)) ggX12_files_X12_ok
theorem dX12_files_0 : decode cX12_files 0 = .ok (.aload_n 0, 1) := by decide +kernel
theorem dX12_files_1 : decode cX12_files 1 = .ok (.aload_n 0, 1) := by decide +kernel
theorem dX12_files_2 : decode cX12_files 2 = .ok (.getfield 95, 3) := by decide +kernel
theorem dX12_files_5 : decode cX12_files 5 = .ok (.invokevirtual 115, 3) := by decide +kernel
theorem dX12_files_8 : decode cX12_files 8 = .ok (.ireturn, 1) := by decide +kernel
set_option maxRecDepth 20000 in
theorem ggX12_isFile_X12_isIn : GoodIn wsX12_isFile wsX12_isIn := goodIn_r _ [5] (by decide +kernel) (by decide +kernel)
set_option maxRecDepth 20000 in
theorem gX12_isFile_X12_isIn : GoodIn wsX12_isFile (va_wsS RX12 71 yX12_isIn wsX12_isIn) := goodIn_app (goodIn_of _ (by decide +kernel)) ggX12_isFile_X12_isIn
theorem dX12_isFile_0 : decode cX12_isFile 0 = .ok (.iload_n 1, 1) := by decide +kernel
theorem dX12_isFile_1 : decode cX12_isFile 1 = .ok (.iconst 0, 1) := by decide +kernel
theorem dX12_isFile_2 : decode cX12_isFile 2 = .ok (.aload_n 0, 1) := by decide +kernel
theorem dX12_isFile_3 : decode cX12_isFile 3 = .ok (.getfield 95, 3) := by decide +kernel
theorem dX12_isFile_6 : decode cX12_isFile 6 = .ok (.iconst 1, 1) := by decide +kernel
theorem dX12_isFile_7 : decode cX12_isFile 7 = .ok (.isub, 1) := by decide +kernel
theorem dX12_isFile_8 : decode cX12_isFile 8 = .ok (.invokestatic 71, 3) := by decide +kernel
theorem dX12_isFile_11 : decode cX12_isFile 11 = .ok (.ireturn, 1) := by decide +kernel
set_option maxRecDepth 20000 in
theorem ggX12_keyOf_X12_isFile : GoodIn wsX12_keyOf wsX12_isFile := goodIn_r _ [7, 8, 9, 10, 6, 11, 16, 17, 18, 19, 20, 21, 22, 23, 24, 25, 26, 27, 28, 29, 30, 31, 32, 33, 34, 35, 36, 37, 38, 39, 40] (by decide +kernel) (by decide +kernel)
set_option maxRecDepth 20000 in
theorem gX12_keyOf_X12_isFile : GoodIn wsX12_keyOf (wsV RX12 118 RX12 yX12_isFile wsX12_isFile) := goodIn_app (goodIn_of _ (by decide +kernel)) ggX12_keyOf_X12_isFile
set_option maxRecDepth 20000 in
theorem ggX12_keyOf_X12_no : GoodIn wsX12_keyOf wsX12_no := goodIn_r _ [15, 1, 16, 17, 18, 19, 20, 21, 22, 23, 24, 25, 26, 27, 28, 29, 30, 31, 32, 33, 34, 35, 36, 37, 38, 39, 40] (by decide +kernel) (by decide +kernel)
