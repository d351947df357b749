theorem dX12_open_147 : decode cX12_open 147 = .ok (.istore 6, 2) := by decide +kernel
theorem dX12_open_149 : decode cX12_open 149 = .ok (.iload 6, 2) := by decide +kernel
theorem dX12_open_151 : decode cX12_open 151 = .ok (.aload_n 0, 1) := by decide +kernel
theorem dX12_open_152 : decode cX12_open 152 = .ok (.getfield 31, 3) := by decide +kernel
theorem dX12_open_155 : decode cX12_open 155 = .ok (.arraylength, 1) := by decide +kernel
theorem dX12_open_156 : decode cX12_open 156 = .ok (.if_icmp .ge 28, 3) := by decide +kernel
theorem dX12_open_159 : decode cX12_open 159 = .ok (.aload_n 0, 1) := by decide +kernel
theorem dX12_open_160 : decode cX12_open 160 = .ok (.getfield 31, 3) := by decide +kernel
theorem dX12_open_163 : decode cX12_open 163 = .ok (.iload 6, 2) := by decide +kernel
theorem dX12_open_165 : decode cX12_open 165 = .ok (.aload 4, 2) := by decide +kernel
theorem dX12_open_167 : decode cX12_open 167 = .ok (.iload 6, 2) := by decide +kernel
theorem dX12_open_169 : decode cX12_open 169 = .ok (.iload_n 3, 1) := by decide +kernel
theorem dX12_open_170 : decode cX12_open 170 = .ok (.idiv, 1) := by decide +kernel
theorem dX12_open_171 : decode cX12_open 171 = .ok (.aaload, 1) := by decide +kernel
theorem dX12_open_172 : decode cX12_open 172 = .ok (.iload 6, 2) := by decide +kernel
theorem dX12_open_174 : decode cX12_open 174 = .ok (.iload_n 3, 1) := by decide +kernel
theorem dX12_open_175 : decode cX12_open 175 = .ok (.irem, 1) := by decide +kernel
theorem dX12_open_176 : decode cX12_open 176 = .ok (.iaload, 1) := by decide +kernel
theorem dX12_open_177 : decode cX12_open 177 = .ok (.iastore, 1) := by decide +kernel
theorem dX12_open_178 : decode cX12_open 178 = .ok (.iinc 6 1, 3) := by decide +kernel
theorem dX12_open_181 : decode cX12_open 181 = .ok (.goto (-32), 3) := by decide +kernel
theorem dX12_open_184 : decode cX12_open 184 = .ok (.aload_n 0, 1) := by decide +kernel
theorem dX12_open_185 : decode cX12_open 185 = .ok (.iconst 1, 1) := by decide +kernel
theorem dX12_open_186 : decode cX12_open 186 = .ok (.putfield 164, 3) := by decide +kernel
theorem dX12_open_189 : decode cX12_open 189 = .ok (.aload_n 0, 1) := by decide +kernel
theorem dX12_open_190 : decode cX12_open 190 = .ok (.invokevirtual 224, 3) := by decide +kernel
theorem dX12_open_193 : decode cX12_open 193 = .ok (.iload 5, 2) := by decide +kernel
theorem dX12_open_195 : decode cX12_open 195 = .ok (.ireturn, 1) := by decide +kernel
set_option maxRecDepth 20000 in
theorem ggX12_indexPlace_X12_word : GoodIn wsX12_indexPlace wsX12_word := goodIn_r _ [5] (by decide +kernel) (by decide +kernel)
set_option maxRecDepth 20000 in
theorem gX12_indexPlace_X12_word : GoodIn wsX12_indexPlace (va_wsS RX12 181 yX12_word wsX12_word) := goodIn_app (goodIn_of _ (by decide +kernel)) ggX12_indexPlace_X12_word
set_option maxRecDepth 20000 in
theorem ggX12_indexPlace_X12_check : GoodIn wsX12_indexPlace wsX12_check := goodIn_r _ [8, 9, 10, 11, 4, 12, 13, 14] (by decide +kernel) (by decide +kernel)
set_option maxRecDepth 20000 in
theorem gX12_indexPlace_X12_check : GoodIn wsX12_indexPlace (va_wsS RX12 122 yX12_check wsX12_check) := goodIn_app (goodIn_of _ (by decide +kernel)) ggX12_indexPlace_X12_check
theorem dX12_indexPlace_0 : decode cX12_indexPlace 0 = .ok (.aload_n 0, 1) := by decide +kernel
theorem dX12_indexPlace_1 : decode cX12_indexPlace 1 = .ok (.getfield 31, 3) := by decide +kernel
theorem dX12_indexPlace_4 : decode cX12_indexPlace 4 = .ok (.arraylength, 1) := by decide +kernel
theorem dX12_indexPlace_5 : decode cX12_indexPlace 5 = .ok (.bipush 6, 2) := by decide +kernel
theorem dX12_indexPlace_7 : decode cX12_indexPlace 7 = .ok (.isub, 1) := by decide +kernel
theorem dX12_indexPlace_8 : decode cX12_indexPlace 8 = .ok (.istore_n 1, 1) := by decide +kernel
theorem dX12_indexPlace_9 : decode cX12_indexPlace 9 = .ok (.iload_n 1, 1) := by decide +kernel
theorem dX12_indexPlace_10 : decode cX12_indexPlace 10 = .ok (.ifCond .lt 14, 3) := by decide +kernel
theorem dX12_indexPlace_13 : decode cX12_indexPlace 13 = .ok (.aload_n 0, 1) := by decide +kernel
theorem dX12_indexPlace_14 : decode cX12_indexPlace 14 = .ok (.getfield 31, 3) := by decide +kernel
theorem dX12_indexPlace_17 : decode cX12_indexPlace 17 = .ok (.iload_n 1, 1) := by decide +kernel
theorem dX12_indexPlace_18 : decode cX12_indexPlace 18 = .ok (.iaload, 1) := by decide +kernel
theorem dX12_indexPlace_19 : decode cX12_indexPlace 19 = .ok (.bipush 88, 2) := by decide +kernel
theorem dX12_indexPlace_21 : decode cX12_indexPlace 21 = .ok (.if_icmp .eq 5, 3) := by decide +kernel
theorem dX12_indexPlace_24 : decode cX12_indexPlace 24 = .ok (.iconst (-1), 1) := by decide +kernel
theorem dX12_indexPlace_25 : decode cX12_indexPlace 25 = .ok (.ireturn, 1) := by decide +kernel
theorem dX12_indexPlace_26 : decode cX12_indexPlace 26 = .ok (.aload_n 0, 1) := by decide +kernel
theorem dX12_indexPlace_27 : decode cX12_indexPlace 27 = .ok (.getfield 31, 3) := by decide +kernel
theorem dX12_indexPlace_30 : decode cX12_indexPlace 30 = .ok (.iload_n 1, 1) := by decide +kernel
theorem dX12_indexPlace_31 : decode cX12_indexPlace 31 = .ok (.iconst 2, 1) := by decide +kernel
theorem dX12_indexPlace_32 : decode cX12_indexPlace 32 = .ok (.iadd, 1) := by decide +kernel
theorem dX12_indexPlace_33 : decode cX12_indexPlace 33 = .ok (.invokestatic 181, 3) := by decide +kernel
theorem dX12_indexPlace_36 : decode cX12_indexPlace 36 = .ok (.istore_n 2, 1) := by decide +kernel
theorem dX12_indexPlace_37 : decode cX12_indexPlace 37 = .ok (.iload_n 2, 1) := by decide +kernel
theorem dX12_indexPlace_38 : decode cX12_indexPlace 38 = .ok (.bipush 6, 2) := by decide +kernel
theorem dX12_indexPlace_40 : decode cX12_indexPlace 40 = .ok (.aload_n 0, 1) := by decide +kernel
theorem dX12_indexPlace_41 : decode cX12_indexPlace 41 = .ok (.getfield 31, 3) := by decide +kernel
theorem dX12_indexPlace_44 : decode cX12_indexPlace 44 = .ok (.iload_n 1, 1) := by decide +kernel
theorem dX12_indexPlace_45 : decode cX12_indexPlace 45 = .ok (.iconst 1, 1) := by decide +kernel
theorem dX12_indexPlace_46 : decode cX12_indexPlace 46 = .ok (.iadd, 1) := by decide +kernel
theorem dX12_indexPlace_47 : decode cX12_indexPlace 47 = .ok (.iaload, 1) := by decide +kernel
theorem dX12_indexPlace_48 : decode cX12_indexPlace 48 = .ok (.imul, 1) := by decide +kernel
theorem dX12_indexPlace_49 : decode cX12_indexPlace 49 = .ok (.iadd, 1) := by decide +kernel
theorem dX12_indexPlace_50 : decode cX12_indexPlace 50 = .ok (.iload_n 1, 1) := by decide +kernel
theorem dX12_indexPlace_51 : decode cX12_indexPlace 51 = .ok (.if_icmp .ne 29, 3) := by decide +kernel
theorem dX12_indexPlace_54 : decode cX12_indexPlace 54 = .ok (.aload_n 0, 1) := by decide +kernel
theorem dX12_indexPlace_55 : decode cX12_indexPlace 55 = .ok (.getfield 31, 3) := by decide +kernel
theorem dX12_indexPlace_58 : decode cX12_indexPlace 58 = .ok (.iload_n 2, 1) := by decide +kernel
theorem dX12_indexPlace_59 : decode cX12_indexPlace 59 = .ok (.iload_n 1, 1) := by decide +kernel
theorem dX12_indexPlace_60 : decode cX12_indexPlace 60 = .ok (.invokestatic 122, 3) := by decide +kernel
theorem dX12_indexPlace_63 : decode cX12_indexPlace 63 = .ok (.aload_n 0, 1) := by decide +kernel
theorem dX12_indexPlace_64 : decode cX12_indexPlace 64 = .ok (.getfield 31, 3) := by decide +kernel
theorem dX12_indexPlace_67 : decode cX12_indexPlace 67 = .ok (.iload_n 1, 1) := by decide +kernel
theorem dX12_indexPlace_68 : decode cX12_indexPlace 68 = .ok (.iconst 4, 1) := by decide +kernel
theorem dX12_indexPlace_69 : decode cX12_indexPlace 69 = .ok (.iadd, 1) := by decide +kernel
theorem dX12_indexPlace_70 : decode cX12_indexPlace 70 = .ok (.invokestatic 181, 3) := by decide +kernel
theorem dX12_indexPlace_73 : decode cX12_indexPlace 73 = .ok (.if_icmp .ne 7, 3) := by decide +kernel
theorem dX12_indexPlace_76 : decode cX12_indexPlace 76 = .ok (.iload_n 2, 1) := by decide +kernel
theorem dX12_indexPlace_77 : decode cX12_indexPlace 77 = .ok (.goto 4, 3) := by decide +kernel
theorem dX12_indexPlace_80 : decode cX12_indexPlace 80 = .ok (.iconst (-1), 1) := by decide +kernel
theorem dX12_indexPlace_81 : decode cX12_indexPlace 81 = .ok (.ireturn, 1) := by decide +kernel
set_option maxRecDepth 20000 in
theorem ggX12_recordSize_X12_word : GoodIn wsX12_recordSize wsX12_word := goodIn_r _ [5] (by decide +kernel) (by decide +kernel)
set_option maxRecDepth 20000 in
theorem gX12_recordSize_X12_word : GoodIn wsX12_recordSize (va_wsS RX12 181 yX12_word wsX12_word) := goodIn_app (goodIn_of _ (by decide +kernel)) ggX12_recordSize_X12_word
theorem dX12_recordSize_0 : decode cX12_recordSize 0 = .ok (.iload_n 1, 1) := by decide +kernel
theorem dX12_recordSize_1 : decode cX12_recordSize 1 = .ok (.bipush 8, 2) := by decide +kernel
theorem dX12_recordSize_3 : decode cX12_recordSize 3 = .ok (.iadd, 1) := by decide +kernel
theorem dX12_recordSize_4 : decode cX12_recordSize 4 = .ok (.aload_n 0, 1) := by decide +kernel
theorem dX12_recordSize_5 : decode cX12_recordSize 5 = .ok (.getfield 31, 3) := by decide +kernel
theorem dX12_recordSize_8 : decode cX12_recordSize 8 = .ok (.arraylength, 1) := by decide +kernel
theorem dX12_recordSize_9 : decode cX12_recordSize 9 = .ok (.if_icmp .gt 26, 3) := by decide +kernel
theorem dX12_recordSize_12 : decode cX12_recordSize 12 = .ok (.aload_n 0, 1) := by decide +kernel
theorem dX12_recordSize_13 : decode cX12_recordSize 13 = .ok (.getfield 31, 3) := by decide +kernel
theorem dX12_recordSize_16 : decode cX12_recordSize 16 = .ok (.iload_n 1, 1) := by decide +kernel
theorem dX12_recordSize_17 : decode cX12_recordSize 17 = .ok (.iaload, 1) := by decide +kernel
theorem dX12_recordSize_18 : decode cX12_recordSize 18 = .ok (.bipush 69, 2) := by decide +kernel
theorem dX12_recordSize_20 : decode cX12_recordSize 20 = .ok (.if_icmp .ne 15, 3) := by decide +kernel
theorem dX12_recordSize_23 : decode cX12_recordSize 23 = .ok (.aload_n 0, 1) := by decide +kernel
theorem dX12_recordSize_24 : decode cX12_recordSize 24 = .ok (.getfield 31, 3) := by decide +kernel
theorem dX12_recordSize_27 : decode cX12_recordSize 27 = .ok (.iload_n 1, 1) := by decide +kernel
theorem dX12_recordSize_28 : decode cX12_recordSize 28 = .ok (.iconst 1, 1) := by decide +kernel
theorem dX12_recordSize_29 : decode cX12_recordSize 29 = .ok (.iadd, 1) := by decide +kernel
theorem dX12_recordSize_30 : decode cX12_recordSize 30 = .ok (.iaload, 1) := by decide +kernel
theorem dX12_recordSize_31 : decode cX12_recordSize 31 = .ok (.iconst 1, 1) := by decide +kernel
theorem dX12_recordSize_32 : decode cX12_recordSize 32 = .ok (.if_icmp .le 5, 3) := by decide +kernel
theorem dX12_recordSize_35 : decode cX12_recordSize 35 = .ok (.iconst (-1), 1) := by decide +kernel
theorem dX12_recordSize_36 : decode cX12_recordSize 36 = .ok (.ireturn, 1) := by decide +kernel
theorem dX12_recordSize_37 : decode cX12_recordSize 37 = .ok (.bipush 8, 2) := by decide +kernel
theorem dX12_recordSize_39 : decode cX12_recordSize 39 = .ok (.aload_n 0, 1) := by decide +kernel
theorem dX12_recordSize_40 : decode cX12_recordSize 40 = .ok (.getfield 31, 3) := by decide +kernel
theorem dX12_recordSize_43 : decode cX12_recordSize 43 = .ok (.iload_n 1, 1) := by decide +kernel
theorem dX12_recordSize_44 : decode cX12_recordSize 44 = .ok (.iconst 4, 1) := by decide +kernel
theorem dX12_recordSize_45 : decode cX12_recordSize 45 = .ok (.iadd, 1) := by decide +kernel
theorem dX12_recordSize_46 : decode cX12_recordSize 46 = .ok (.invokestatic 181, 3) := by decide +kernel
theorem dX12_recordSize_49 : decode cX12_recordSize 49 = .ok (.iadd, 1) := by decide +kernel
theorem dX12_recordSize_50 : decode cX12_recordSize 50 = .ok (.istore_n 2, 1) := by decide +kernel
theorem dX12_recordSize_51 : decode cX12_recordSize 51 = .ok (.iload_n 1, 1) := by decide +kernel
theorem dX12_recordSize_52 : decode cX12_recordSize 52 = .ok (.iload_n 2, 1) := by decide +kernel
theorem dX12_recordSize_53 : decode cX12_recordSize 53 = .ok (.iadd, 1) := by decide +kernel
theorem dX12_recordSize_54 : decode cX12_recordSize 54 = .ok (.aload_n 0, 1) := by decide +kernel
theorem dX12_recordSize_55 : decode cX12_recordSize 55 = .ok (.getfield 31, 3) := by decide +kernel
theorem dX12_recordSize_58 : decode cX12_recordSize 58 = .ok (.arraylength, 1) := by decide +kernel
theorem dX12_recordSize_59 : decode cX12_recordSize 59 = .ok (.if_icmp .le 7, 3) := by decide +kernel
theorem dX12_recordSize_62 : decode cX12_recordSize 62 = .ok (.iconst (-1), 1) := by decide +kernel
theorem dX12_recordSize_63 : decode cX12_recordSize 63 = .ok (.goto 4, 3) := by decide +kernel
theorem dX12_recordSize_66 : decode cX12_recordSize 66 = .ok (.iload_n 2, 1) := by decide +kernel
theorem dX12_recordSize_67 : decode cX12_recordSize 67 = .ok (.ireturn, 1) := by decide +kernel
set_option maxRecDepth 20000 in
theorem ggX12_findFiles_X12_indexPlace : GoodIn wsX12_findFiles wsX12_indexPlace := goodIn_r _ [8, 3, 9, 10, 7, 11, 12, 13, 14, 15, 16, 17, 18, 19, 20, 42, 43, 44, 45, 46, 47, 48, 49, 50, 51, 52, 53, 54, 55, 56, 57, 58, 59, 60, 61, 62, 63, 64, 65, 66] (by decide +kernel) (by decide +kernel)
set_option maxRecDepth 20000 in
theorem gX12_findFiles_X12_indexPlace : GoodIn wsX12_findFiles (wsV RX12 227 RX12 yX12_indexPlace wsX12_indexPlace) := goodIn_app (goodIn_of _ (by decide +kernel)) ggX12_findFiles_X12_indexPlace
set_option maxRecDepth 20000 in
theorem ggX12_findFiles_X12_word : GoodIn wsX12_findFiles wsX12_word := goodIn_r _ [11] (by decide +kernel) (by decide +kernel)
set_option maxRecDepth 20000 in
theorem gX12_findFiles_X12_word : GoodIn wsX12_findFiles (va_wsS RX12 181 yX12_word wsX12_word) := goodIn_app (goodIn_of _ (by decide +kernel)) ggX12_findFiles_X12_word
set_option maxRecDepth 20000 in
theorem ggX12_findFiles_X12_add : GoodIn wsX12_findFiles wsX12_add := goodIn_r _ [24, 25, 2, 26, 27, 28, 29, 30, 31, 7, 32, 3, 33, 34, 35, 36, 37, 9, 10, 11, 38, 39, 40, 41, 12, 13, 14, 15, 16, 17, 18, 19, 20, 42, 43, 44, 45, 46, 47, 48, 49, 50, 51, 52, 53, 54, 55, 56, 57, 58, 59, 60, 61, 62, 63, 64, 65, 66] (by decide +kernel) (by decide +kernel)
set_option maxRecDepth 20000 in
theorem gX12_findFiles_X12_add : GoodIn wsX12_findFiles (wsV RX12 236 RX12 yX12_add wsX12_add) := goodIn_app (goodIn_of _ (by decide +kernel)) ggX12_findFiles_X12_add
set_option maxRecDepth 20000 in
theorem ggX12_findFiles_X12_recordSize : GoodIn wsX12_findFiles wsX12_recordSize := goodIn_r _ [37, 3, 9, 10, 7, 11, 42, 43, 44, 45, 46, 47, 48, 49, 50, 51, 52, 53, 54, 55, 56, 57, 58, 59, 60, 61, 62, 63, 64, 65, 66] (by decide +kernel) (by decide +kernel)
set_option maxRecDepth 20000 in
theorem gX12_findFiles_X12_recordSize : GoodIn wsX12_findFiles (wsV RX12 240 RX12 yX12_recordSize wsX12_recordSize) := goodIn_app (goodIn_of _ (by decide +kernel)) ggX12_findFiles_X12_recordSize
theorem dX12_findFiles_0 : decode cX12_findFiles 0 = .ok (.aload_n 0, 1) := by decide +kernel
theorem dX12_findFiles_1 : decode cX12_findFiles 1 = .ok (.invokevirtual 227, 3) := by decide +kernel
theorem dX12_findFiles_4 : decode cX12_findFiles 4 = .ok (.istore_n 1, 1) := by decide +kernel
theorem dX12_findFiles_5 : decode cX12_findFiles 5 = .ok (.aload_n 0, 1) := by decide +kernel
theorem dX12_findFiles_6 : decode cX12_findFiles 6 = .ok (.iload_n 1, 1) := by decide +kernel
theorem dX12_findFiles_7 : decode cX12_findFiles 7 = .ok (.iconst (-1), 1) := by decide +kernel
theorem dX12_findFiles_8 : decode cX12_findFiles 8 = .ok (.if_icmp .eq 7, 3) := by decide +kernel
theorem dX12_findFiles_11 : decode cX12_findFiles 11 = .ok (.iconst 1, 1) := by decide +kernel
theorem dX12_findFiles_12 : decode cX12_findFiles 12 = .ok (.goto 4, 3) := by decide +kernel
theorem dX12_findFiles_15 : decode cX12_findFiles 15 = .ok (.iconst 0, 1) := by decide +kernel
theorem dX12_findFiles_16 : decode cX12_findFiles 16 = .ok (.putfield 230, 3) := by decide +kernel
theorem dX12_findFiles_19 : decode cX12_findFiles 19 = .ok (.aload_n 0, 1) := by decide +kernel
theorem dX12_findFiles_20 : decode cX12_findFiles 20 = .ok (.iconst 0, 1) := by decide +kernel
theorem dX12_findFiles_21 : decode cX12_findFiles 21 = .ok (.putfield 233, 3) := by decide +kernel
theorem dX12_findFiles_24 : decode cX12_findFiles 24 = .ok (.aload_n 0, 1) := by decide +kernel
theorem dX12_findFiles_25 : decode cX12_findFiles 25 = .ok (.getfield 230, 3) := by decide +kernel
theorem dX12_findFiles_28 : decode cX12_findFiles 28 = .ok (.ifCond .eq 65, 3) := by decide +kernel
theorem dX12_findFiles_31 : decode cX12_findFiles 31 = .ok (.iload_n 1, 1) := by decide +kernel
theorem dX12_findFiles_32 : decode cX12_findFiles 32 = .ok (.istore_n 2, 1) := by decide +kernel
theorem dX12_findFiles_33 : decode cX12_findFiles 33 = .ok (.iload_n 2, 1) := by decide +kernel
theorem dX12_findFiles_34 : decode cX12_findFiles 34 = .ok (.aload_n 0, 1) := by decide +kernel
theorem dX12_findFiles_35 : decode cX12_findFiles 35 = .ok (.getfield 31, 3) := by decide +kernel
theorem dX12_findFiles_38 : decode cX12_findFiles 38 = .ok (.arraylength, 1) := by decide +kernel
theorem dX12_findFiles_39 : decode cX12_findFiles 39 = .ok (.bipush 6, 2) := by decide +kernel
theorem dX12_findFiles_41 : decode cX12_findFiles 41 = .ok (.isub, 1) := by decide +kernel
theorem dX12_findFiles_42 : decode cX12_findFiles 42 = .ok (.if_icmp .ge 50, 3) := by decide +kernel
theorem dX12_findFiles_45 : decode cX12_findFiles 45 = .ok (.aload_n 0, 1) := by decide +kernel
theorem dX12_findFiles_46 : decode cX12_findFiles 46 = .ok (.getfield 233, 3) := by decide +kernel
theorem dX12_findFiles_49 : decode cX12_findFiles 49 = .ok (.bipush 40, 2) := by decide +kernel
theorem dX12_findFiles_51 : decode cX12_findFiles 51 = .ok (.if_icmp .ge 41, 3) := by decide +kernel
theorem dX12_findFiles_54 : decode cX12_findFiles 54 = .ok (.aload_n 0, 1) := by decide +kernel
theorem dX12_findFiles_55 : decode cX12_findFiles 55 = .ok (.aload_n 0, 1) := by decide +kernel
theorem dX12_findFiles_56 : decode cX12_findFiles 56 = .ok (.getfield 31, 3) := by decide +kernel
theorem dX12_findFiles_59 : decode cX12_findFiles 59 = .ok (.iload_n 2, 1) := by decide +kernel
theorem dX12_findFiles_60 : decode cX12_findFiles 60 = .ok (.invokestatic 181, 3) := by decide +kernel
theorem dX12_findFiles_63 : decode cX12_findFiles 63 = .ok (.aload_n 0, 1) := by decide +kernel
theorem dX12_findFiles_64 : decode cX12_findFiles 64 = .ok (.getfield 31, 3) := by decide +kernel
theorem dX12_findFiles_67 : decode cX12_findFiles 67 = .ok (.iload_n 2, 1) := by decide +kernel
theorem dX12_findFiles_68 : decode cX12_findFiles 68 = .ok (.iconst 2, 1) := by decide +kernel
theorem dX12_findFiles_69 : decode cX12_findFiles 69 = .ok (.iadd, 1) := by decide +kernel
theorem dX12_findFiles_70 : decode cX12_findFiles 70 = .ok (.invokestatic 181, 3) := by decide +kernel
theorem dX12_findFiles_73 : decode cX12_findFiles 73 = .ok (.aload_n 0, 1) := by decide +kernel
theorem dX12_findFiles_74 : decode cX12_findFiles 74 = .ok (.getfield 31, 3) := by decide +kernel
theorem dX12_findFiles_77 : decode cX12_findFiles 77 = .ok (.iload_n 2, 1) := by decide +kernel
theorem dX12_findFiles_78 : decode cX12_findFiles 78 = .ok (.iconst 4, 1) := by decide +kernel
theorem dX12_findFiles_79 : decode cX12_findFiles 79 = .ok (.iadd, 1) := by decide +kernel
theorem dX12_findFiles_80 : decode cX12_findFiles 80 = .ok (.invokestatic 181, 3) := by decide +kernel
theorem dX12_findFiles_83 : decode cX12_findFiles 83 = .ok (.invokevirtual 236, 3) := by decide +kernel
theorem dX12_findFiles_86 : decode cX12_findFiles 86 = .ok (.iinc 2 6, 3) := by decide +kernel
theorem dX12_findFiles_89 : decode cX12_findFiles 89 = .ok (.goto (-56), 3) := by decide +kernel
theorem dX12_findFiles_92 : decode cX12_findFiles 92 = .ok (.return_, 1) := by decide +kernel
theorem dX12_findFiles_93 : decode cX12_findFiles 93 = .ok (.iconst 0, 1) := by decide +kernel
theorem dX12_findFiles_94 : decode cX12_findFiles 94 = .ok (.istore_n 2, 1) := by decide +kernel
theorem dX12_findFiles_95 : decode cX12_findFiles 95 = .ok (.aload_n 0, 1) := by decide +kernel
theorem dX12_findFiles_96 : decode cX12_findFiles 96 = .ok (.getfield 233, 3) := by decide +kernel
theorem dX12_findFiles_99 : decode cX12_findFiles 99 = .ok (.bipush 40, 2) := by decide +kernel
theorem dX12_findFiles_101 : decode cX12_findFiles 101 = .ok (.if_icmp .ge 41, 3) := by decide +kernel
theorem dX12_findFiles_104 : decode cX12_findFiles 104 = .ok (.aload_n 0, 1) := by decide +kernel
theorem dX12_findFiles_105 : decode cX12_findFiles 105 = .ok (.iload_n 2, 1) := by decide +kernel
theorem dX12_findFiles_106 : decode cX12_findFiles 106 = .ok (.invokevirtual 240, 3) := by decide +kernel
theorem dX12_findFiles_109 : decode cX12_findFiles 109 = .ok (.iconst (-1), 1) := by decide +kernel
theorem dX12_findFiles_110 : decode cX12_findFiles 110 = .ok (.if_icmp .eq 32, 3) := by decide +kernel
theorem dX12_findFiles_113 : decode cX12_findFiles 113 = .ok (.aload_n 0, 1) := by decide +kernel
theorem dX12_findFiles_114 : decode cX12_findFiles 114 = .ok (.iload_n 2, 1) := by decide +kernel
theorem dX12_findFiles_115 : decode cX12_findFiles 115 = .ok (.invokevirtual 240, 3) := by decide +kernel
theorem dX12_findFiles_118 : decode cX12_findFiles 118 = .ok (.istore_n 3, 1) := by decide +kernel
theorem dX12_findFiles_119 : decode cX12_findFiles 119 = .ok (.aload_n 0, 1) := by decide +kernel
theorem dX12_findFiles_120 : decode cX12_findFiles 120 = .ok (.aload_n 0, 1) := by decide +kernel
theorem dX12_findFiles_121 : decode cX12_findFiles 121 = .ok (.getfield 31, 3) := by decide +kernel
theorem dX12_findFiles_124 : decode cX12_findFiles 124 = .ok (.iload_n 2, 1) := by decide +kernel
theorem dX12_findFiles_125 : decode cX12_findFiles 125 = .ok (.iconst 2, 1) := by decide +kernel
theorem dX12_findFiles_126 : decode cX12_findFiles 126 = .ok (.iadd, 1) := by decide +kernel
theorem dX12_findFiles_127 : decode cX12_findFiles 127 = .ok (.invokestatic 181, 3) := by decide +kernel
theorem dX12_findFiles_130 : decode cX12_findFiles 130 = .ok (.iload_n 2, 1) := by decide +kernel
theorem dX12_findFiles_131 : decode cX12_findFiles 131 = .ok (.iconst (-1), 1) := by decide +kernel
theorem dX12_findFiles_132 : decode cX12_findFiles 132 = .ok (.invokevirtual 236, 3) := by decide +kernel
theorem dX12_findFiles_135 : decode cX12_findFiles 135 = .ok (.iload_n 2, 1) := by decide +kernel
theorem dX12_findFiles_136 : decode cX12_findFiles 136 = .ok (.iload_n 3, 1) := by decide +kernel
theorem dX12_findFiles_137 : decode cX12_findFiles 137 = .ok (.iadd, 1) := by decide +kernel
theorem dX12_findFiles_138 : decode cX12_findFiles 138 = .ok (.istore_n 2, 1) := by decide +kernel
theorem dX12_findFiles_139 : decode cX12_findFiles 139 = .ok (.goto (-44), 3) := by decide +kernel
theorem dX12_findFiles_142 : decode cX12_findFiles 142 = .ok (.return_, 1) := by decide +kernel
set_option maxRecDepth 20000 in
theorem ggX12_add_X12_read : GoodIn wsX12_add wsX12_read := goodIn_r _ [10, 3, 11, 1, 4, 12, 13, 14, 15, 9, 16, 17, 18, 19, 20, 21, 22, 23, 24, 25, 26, 27, 28, 29, 30, 31, 32, 33, 34, 35, 36, 37, 38, 39, 40, 41, 42, 43, 44, 45, 46, 47, 48, 49, 50, 51, 52, 53, 54, 55, 56, 57] (by decide +kernel) (by decide +kernel)
set_option maxRecDepth 20000 in
theorem gX12_add_X12_read : GoodIn wsX12_add (wsV RX12 243 RX12 yX12_read wsX12_read) := goodIn_app (goodIn_of _ (by decide +kernel)) ggX12_add_X12_read
theorem dX12_add_0 : decode cX12_add 0 = .ok (.aload_n 0, 1) := by decide +kernel
theorem dX12_add_1 : decode cX12_add 1 = .ok (.getfield 34, 3) := by decide +kernel
theorem dX12_add_4 : decode cX12_add 4 = .ok (.aload_n 0, 1) := by decide +kernel
theorem dX12_add_5 : decode cX12_add 5 = .ok (.getfield 233, 3) := by decide +kernel
theorem dX12_add_8 : decode cX12_add 8 = .ok (.iload_n 1, 1) := by decide +kernel
theorem dX12_add_9 : decode cX12_add 9 = .ok (.iastore, 1) := by decide +kernel
theorem dX12_add_10 : decode cX12_add 10 = .ok (.aload_n 0, 1) := by decide +kernel
theorem dX12_add_11 : decode cX12_add 11 = .ok (.getfield 37, 3) := by decide +kernel
theorem dX12_add_14 : decode cX12_add 14 = .ok (.aload_n 0, 1) := by decide +kernel
theorem dX12_add_15 : decode cX12_add 15 = .ok (.getfield 233, 3) := by decide +kernel
theorem dX12_add_18 : decode cX12_add 18 = .ok (.iload_n 2, 1) := by decide +kernel
theorem dX12_add_19 : decode cX12_add 19 = .ok (.iastore, 1) := by decide +kernel
theorem dX12_add_20 : decode cX12_add 20 = .ok (.aload_n 0, 1) := by decide +kernel
theorem dX12_add_21 : decode cX12_add 21 = .ok (.getfield 40, 3) := by decide +kernel
theorem dX12_add_24 : decode cX12_add 24 = .ok (.aload_n 0, 1) := by decide +kernel
theorem dX12_add_25 : decode cX12_add 25 = .ok (.getfield 233, 3) := by decide +kernel
theorem dX12_add_28 : decode cX12_add 28 = .ok (.iload_n 3, 1) := by decide +kernel
theorem dX12_add_29 : decode cX12_add 29 = .ok (.iastore, 1) := by decide +kernel
theorem dX12_add_30 : decode cX12_add 30 = .ok (.aload_n 0, 1) := by decide +kernel
theorem dX12_add_31 : decode cX12_add 31 = .ok (.getfield 43, 3) := by decide +kernel
theorem dX12_add_34 : decode cX12_add 34 = .ok (.aload_n 0, 1) := by decide +kernel
theorem dX12_add_35 : decode cX12_add 35 = .ok (.getfield 233, 3) := by decide +kernel
theorem dX12_add_38 : decode cX12_add 38 = .ok (.aload_n 0, 1) := by decide +kernel
theorem dX12_add_39 : decode cX12_add 39 = .ok (.aload_n 0, 1) := by decide +kernel
theorem dX12_add_40 : decode cX12_add 40 = .ok (.getfield 233, 3) := by decide +kernel
theorem dX12_add_43 : decode cX12_add 43 = .ok (.invokevirtual 243, 3) := by decide +kernel
theorem dX12_add_46 : decode cX12_add 46 = .ok (.iastore, 1) := by decide +kernel
theorem dX12_add_47 : decode cX12_add 47 = .ok (.aload_n 0, 1) := by decide +kernel
theorem dX12_add_48 : decode cX12_add 48 = .ok (.dup, 1) := by decide +kernel
theorem dX12_add_49 : decode cX12_add 49 = .ok (.getfield 233, 3) := by decide +kernel
theorem dX12_add_52 : decode cX12_add 52 = .ok (.iconst 1, 1) := by decide +kernel
theorem dX12_add_53 : decode cX12_add 53 = .ok (.iadd, 1) := by decide +kernel
theorem dX12_add_54 : decode cX12_add 54 = .ok (.putfield 233, 3) := by decide +kernel
theorem dX12_add_57 : decode cX12_add 57 = .ok (.return_, 1) := by decide +kernel
set_option maxRecDepth 20000 in
theorem ggX12_read_X12_recordSize : GoodIn wsX12_read wsX12_recordSize := goodIn_r _ [10, 2, 11, 12, 9, 13, 27, 28, 29, 30, 31, 32, 33, 34, 35, 36, 37, 38, 39, 40, 41, 42, 43, 44, 45, 46, 47, 48, 49, 50, 51] (by decide +kernel) (by decide +kernel)
set_option maxRecDepth 20000 in
theorem gX12_read_X12_recordSize : GoodIn wsX12_read (wsV RX12 240 RX12 yX12_recordSize wsX12_recordSize) := goodIn_app (goodIn_of _ (by decide +kernel)) ggX12_read_X12_recordSize
set_option maxRecDepth 20000 in
theorem ggX12_read_X12_word : GoodIn wsX12_read wsX12_word := goodIn_r _ [13] (by decide +kernel) (by decide +kernel)
set_option maxRecDepth 20000 in
theorem gX12_read_X12_word : GoodIn wsX12_read (va_wsS RX12 181 yX12_word wsX12_word) := goodIn_app (goodIn_of _ (by decide +kernel)) ggX12_read_X12_word
set_option maxRecDepth 20000 in
theorem ggX12_read_X12_unpack : GoodIn wsX12_read wsX12_unpack := goodIn_r _ [17, 5, 27, 28, 29, 30, 31, 32, 33, 34, 35, 36, 37, 38, 39, 40, 41, 42, 43, 44, 45, 46, 47, 48, 49, 50, 51] (by decide +kernel) (by decide +kernel)
set_option maxRecDepth 20000 in
theorem gX12_read_X12_unpack : GoodIn wsX12_read (wsV RX12 246 RX12 yX12_unpack wsX12_unpack) := goodIn_app (goodIn_of _ (by decide +kernel)) ggX12_read_X12_unpack
set_option maxRecDepth 20000 in
theorem ggX12_read_X12_check : GoodIn wsX12_read wsX12_check := goodIn_r _ [20, 21, 22, 23, 9, 24, 25, 26] (by decide +kernel) (by decide +kernel)
set_option maxRecDepth 20000 in
theorem gX12_read_X12_check : GoodIn wsX12_read (va_wsS RX12 122 yX12_check wsX12_check) := goodIn_app (goodIn_of _ (by decide +kernel)) ggX12_read_X12_check
theorem dX12_read_0 : decode cX12_read 0 = .ok (.aload_n 0, 1) := by decide +kernel
theorem dX12_read_1 : decode cX12_read 1 = .ok (.getfield 37, 3) := by decide +kernel
theorem dX12_read_4 : decode cX12_read 4 = .ok (.iload_n 1, 1) := by decide +kernel
theorem dX12_read_5 : decode cX12_read 5 = .ok (.iaload, 1) := by decide +kernel
theorem dX12_read_6 : decode cX12_read 6 = .ok (.istore_n 2, 1) := by decide +kernel
theorem dX12_read_7 : decode cX12_read 7 = .ok (.aload_n 0, 1) := by decide +kernel
theorem dX12_read_8 : decode cX12_read 8 = .ok (.iload_n 2, 1) := by decide +kernel
theorem dX12_read_9 : decode cX12_read 9 = .ok (.invokevirtual 240, 3) := by decide +kernel
theorem dX12_read_12 : decode cX12_read 12 = .ok (.istore_n 3, 1) := by decide +kernel
theorem dX12_read_13 : decode cX12_read 13 = .ok (.iload_n 3, 1) := by decide +kernel
theorem dX12_read_14 : decode cX12_read 14 = .ok (.iconst (-1), 1) := by decide +kernel
theorem dX12_read_15 : decode cX12_read 15 = .ok (.if_icmp .eq 22, 3) := by decide +kernel
theorem dX12_read_18 : decode cX12_read 18 = .ok (.aload_n 0, 1) := by decide +kernel
theorem dX12_read_19 : decode cX12_read 19 = .ok (.getfield 31, 3) := by decide +kernel
theorem dX12_read_22 : decode cX12_read 22 = .ok (.iload_n 2, 1) := by decide +kernel
theorem dX12_read_23 : decode cX12_read 23 = .ok (.iconst 2, 1) := by decide +kernel
theorem dX12_read_24 : decode cX12_read 24 = .ok (.iadd, 1) := by decide +kernel
theorem dX12_read_25 : decode cX12_read 25 = .ok (.invokestatic 181, 3) := by decide +kernel
theorem dX12_read_28 : decode cX12_read 28 = .ok (.aload_n 0, 1) := by decide +kernel
theorem dX12_read_29 : decode cX12_read 29 = .ok (.getfield 34, 3) := by decide +kernel
theorem dX12_read_32 : decode cX12_read 32 = .ok (.iload_n 1, 1) := by decide +kernel
theorem dX12_read_33 : decode cX12_read 33 = .ok (.iaload, 1) := by decide +kernel
theorem dX12_read_34 : decode cX12_read 34 = .ok (.if_icmp .eq 5, 3) := by decide +kernel
theorem dX12_read_37 : decode cX12_read 37 = .ok (.iconst (-1), 1) := by decide +kernel
theorem dX12_read_38 : decode cX12_read 38 = .ok (.ireturn, 1) := by decide +kernel
theorem dX12_read_39 : decode cX12_read 39 = .ok (.aload_n 0, 1) := by decide +kernel
theorem dX12_read_40 : decode cX12_read 40 = .ok (.aload_n 0, 1) := by decide +kernel
theorem dX12_read_41 : decode cX12_read 41 = .ok (.getfield 31, 3) := by decide +kernel
theorem dX12_read_44 : decode cX12_read 44 = .ok (.iload_n 2, 1) := by decide +kernel
theorem dX12_read_45 : decode cX12_read 45 = .ok (.bipush 8, 2) := by decide +kernel
theorem dX12_read_47 : decode cX12_read 47 = .ok (.iadd, 1) := by decide +kernel
theorem dX12_read_48 : decode cX12_read 48 = .ok (.iload_n 2, 1) := by decide +kernel
theorem dX12_read_49 : decode cX12_read 49 = .ok (.iload_n 3, 1) := by decide +kernel
theorem dX12_read_50 : decode cX12_read 50 = .ok (.iadd, 1) := by decide +kernel
theorem dX12_read_51 : decode cX12_read 51 = .ok (.aload_n 0, 1) := by decide +kernel
theorem dX12_read_52 : decode cX12_read 52 = .ok (.getfield 31, 3) := by decide +kernel
theorem dX12_read_55 : decode cX12_read 55 = .ok (.iload_n 2, 1) := by decide +kernel
theorem dX12_read_56 : decode cX12_read 56 = .ok (.iconst 1, 1) := by decide +kernel
theorem dX12_read_57 : decode cX12_read 57 = .ok (.iadd, 1) := by decide +kernel
theorem dX12_read_58 : decode cX12_read 58 = .ok (.iaload, 1) := by decide +kernel
theorem dX12_read_59 : decode cX12_read 59 = .ok (.iconst 1, 1) := by decide +kernel
theorem dX12_read_60 : decode cX12_read 60 = .ok (.if_icmp .ne 7, 3) := by decide +kernel
theorem dX12_read_63 : decode cX12_read 63 = .ok (.iconst 1, 1) := by decide +kernel
theorem dX12_read_64 : decode cX12_read 64 = .ok (.goto 4, 3) := by decide +kernel
theorem dX12_read_67 : decode cX12_read 67 = .ok (.iconst 0, 1) := by decide +kernel
theorem dX12_read_68 : decode cX12_read 68 = .ok (.invokevirtual 246, 3) := by decide +kernel
theorem dX12_read_71 : decode cX12_read 71 = .ok (.istore 4, 2) := by decide +kernel
theorem dX12_read_73 : decode cX12_read 73 = .ok (.iload 4, 2) := by decide +kernel
theorem dX12_read_75 : decode cX12_read 75 = .ok (.iconst (-1), 1) := by decide +kernel
theorem dX12_read_76 : decode cX12_read 76 = .ok (.if_icmp .eq 24, 3) := by decide +kernel
theorem dX12_read_79 : decode cX12_read 79 = .ok (.aload_n 0, 1) := by decide +kernel
theorem dX12_read_80 : decode cX12_read 80 = .ok (.getfield 40, 3) := by decide +kernel
theorem dX12_read_83 : decode cX12_read 83 = .ok (.iload_n 1, 1) := by decide +kernel
theorem dX12_read_84 : decode cX12_read 84 = .ok (.iaload, 1) := by decide +kernel
theorem dX12_read_85 : decode cX12_read 85 = .ok (.iconst (-1), 1) := by decide +kernel
theorem dX12_read_86 : decode cX12_read 86 = .ok (.if_icmp .eq 16, 3) := by decide +kernel
theorem dX12_read_89 : decode cX12_read 89 = .ok (.aload_n 0, 1) := by decide +kernel
theorem dX12_read_90 : decode cX12_read 90 = .ok (.getfield 40, 3) := by decide +kernel
theorem dX12_read_93 : decode cX12_read 93 = .ok (.iload_n 1, 1) := by decide +kernel
theorem dX12_read_94 : decode cX12_read 94 = .ok (.iaload, 1) := by decide +kernel
theorem dX12_read_95 : decode cX12_read 95 = .ok (.iload 4, 2) := by decide +kernel
theorem dX12_read_97 : decode cX12_read 97 = .ok (.if_icmp .eq 5, 3) := by decide +kernel
theorem dX12_read_100 : decode cX12_read 100 = .ok (.iconst (-1), 1) := by decide +kernel
theorem dX12_read_101 : decode cX12_read 101 = .ok (.ireturn, 1) := by decide +kernel
theorem dX12_read_102 : decode cX12_read 102 = .ok (.aload_n 0, 1) := by decide +kernel
theorem dX12_read_103 : decode cX12_read 103 = .ok (.getfield 49, 3) := by decide +kernel
theorem dX12_read_106 : decode cX12_read 106 = .ok (.iconst 0, 1) := by decide +kernel
theorem dX12_read_107 : decode cX12_read 107 = .ok (.iload 4, 2) := by decide +kernel
theorem dX12_read_109 : decode cX12_read 109 = .ok (.invokestatic 122, 3) := by decide +kernel
theorem dX12_read_112 : decode cX12_read 112 = .ok (.aload_n 0, 1) := by decide +kernel
theorem dX12_read_113 : decode cX12_read 113 = .ok (.getfield 31, 3) := by decide +kernel
theorem dX12_read_116 : decode cX12_read 116 = .ok (.iload_n 2, 1) := by decide +kernel
theorem dX12_read_117 : decode cX12_read 117 = .ok (.bipush 6, 2) := by decide +kernel
theorem dX12_read_119 : decode cX12_read 119 = .ok (.iadd, 1) := by decide +kernel
theorem dX12_read_120 : decode cX12_read 120 = .ok (.invokestatic 181, 3) := by decide +kernel
theorem dX12_read_123 : decode cX12_read 123 = .ok (.if_icmp .ne 8, 3) := by decide +kernel
theorem dX12_read_126 : decode cX12_read 126 = .ok (.iload 4, 2) := by decide +kernel
theorem dX12_read_128 : decode cX12_read 128 = .ok (.goto 4, 3) := by decide +kernel
theorem dX12_read_131 : decode cX12_read 131 = .ok (.iconst (-1), 1) := by decide +kernel
theorem dX12_read_132 : decode cX12_read 132 = .ok (.ireturn, 1) := by decide +kernel
set_option maxRecDepth 20000 in
theorem ggX12_opened_X12_no : GoodIn wsX12_opened wsX12_no := goodIn_r _ [8, 1, 9, 10, 11, 12, 13, 14, 15, 16, 17, 18, 19, 20, 21, 22, 23, 24, 25, 26, 27, 28, 29, 30, 31, 32, 33] (by decide +kernel) (by decide +kernel)
set_option maxRecDepth 20000 in
theorem gX12_opened_X12_no : GoodIn wsX12_opened (wsV RX12 75 RX12 yX12_no wsX12_no) := goodIn_app (goodIn_of _ (by decide +kernel)) ggX12_opened_X12_no
theorem dX12_opened_0 : decode cX12_opened 0 = .ok (.aload_n 0, 1) := by decide +kernel
theorem dX12_opened_1 : decode cX12_opened 1 = .ok (.iconst 0, 1) := by decide +kernel
theorem dX12_opened_2 : decode cX12_opened 2 = .ok (.putfield 59, 3) := by decide +kernel
theorem dX12_opened_5 : decode cX12_opened 5 = .ok (.aload_n 0, 1) := by decide +kernel
theorem dX12_opened_6 : decode cX12_opened 6 = .ok (.getfield 164, 3) := by decide +kernel
theorem dX12_opened_9 : decode cX12_opened 9 = .ok (.ifCond .eq 11, 3) := by decide +kernel
theorem dX12_opened_12 : decode cX12_opened 12 = .ok (.aload_n 0, 1) := by decide +kernel
theorem dX12_opened_13 : decode cX12_opened 13 = .ok (.getfield 31, 3) := by decide +kernel
theorem dX12_opened_16 : decode cX12_opened 16 = .ok (.arraylength, 1) := by decide +kernel
theorem dX12_opened_17 : decode cX12_opened 17 = .ok (.goto 8, 3) := by decide +kernel
theorem dX12_opened_20 : decode cX12_opened 20 = .ok (.aload_n 0, 1) := by decide +kernel
theorem dX12_opened_21 : decode cX12_opened 21 = .ok (.iconst 1, 1) := by decide +kernel
theorem dX12_opened_22 : decode cX12_opened 22 = .ok (.invokevirtual 75, 3) := by decide +kernel
theorem dX12_opened_25 : decode cX12_opened 25 = .ok (.ireturn, 1) := by decide +kernel
set_option maxRecDepth 20000 in
theorem ggX12_streamAt_X12_no : GoodIn wsX12_streamAt wsX12_no := goodIn_r _ [8, 1, 12, 13, 14, 15, 16, 17, 18, 19, 20, 21, 22, 23, 24, 25, 26, 27, 28, 29, 30, 31, 32, 33, 34, 35, 36] (by decide +kernel) (by decide +kernel)
set_option maxRecDepth 20000 in
theorem gX12_streamAt_X12_no : GoodIn wsX12_streamAt (wsV RX12 75 RX12 yX12_no wsX12_no) := goodIn_app (goodIn_of _ (by decide +kernel)) ggX12_streamAt_X12_no
set_option maxRecDepth 20000 in
theorem ggX12_streamAt_X12_isIn : GoodIn wsX12_streamAt wsX12_isIn := goodIn_r _ [11] (by decide +kernel) (by decide +kernel)
set_option maxRecDepth 20000 in
theorem gX12_streamAt_X12_isIn : GoodIn wsX12_streamAt (va_wsS RX12 71 yX12_isIn wsX12_isIn) := goodIn_app (goodIn_of _ (by decide +kernel)) ggX12_streamAt_X12_isIn
theorem dX12_streamAt_0 : decode cX12_streamAt 0 = .ok (.aload_n 0, 1) := by decide +kernel
theorem dX12_streamAt_1 : decode cX12_streamAt 1 = .ok (.iconst 0, 1) := by decide +kernel
theorem dX12_streamAt_2 : decode cX12_streamAt 2 = .ok (.putfield 59, 3) := by decide +kernel
theorem dX12_streamAt_5 : decode cX12_streamAt 5 = .ok (.aload_n 0, 1) := by decide +kernel
theorem dX12_streamAt_6 : decode cX12_streamAt 6 = .ok (.getfield 164, 3) := by decide +kernel
theorem dX12_streamAt_9 : decode cX12_streamAt 9 = .ok (.ifCond .ne 9, 3) := by decide +kernel
theorem dX12_streamAt_12 : decode cX12_streamAt 12 = .ok (.aload_n 0, 1) := by decide +kernel
theorem dX12_streamAt_13 : decode cX12_streamAt 13 = .ok (.iconst 1, 1) := by decide +kernel
theorem dX12_streamAt_14 : decode cX12_streamAt 14 = .ok (.invokevirtual 75, 3) := by decide +kernel
theorem dX12_streamAt_17 : decode cX12_streamAt 17 = .ok (.ireturn, 1) := by decide +kernel
theorem dX12_streamAt_18 : decode cX12_streamAt 18 = .ok (.iload_n 1, 1) := by decide +kernel
theorem dX12_streamAt_19 : decode cX12_streamAt 19 = .ok (.iconst 0, 1) := by decide +kernel
theorem dX12_streamAt_20 : decode cX12_streamAt 20 = .ok (.aload_n 0, 1) := by decide +kernel
theorem dX12_streamAt_21 : decode cX12_streamAt 21 = .ok (.getfield 31, 3) := by decide +kernel
theorem dX12_streamAt_24 : decode cX12_streamAt 24 = .ok (.arraylength, 1) := by decide +kernel
theorem dX12_streamAt_25 : decode cX12_streamAt 25 = .ok (.iconst 1, 1) := by decide +kernel
theorem dX12_streamAt_26 : decode cX12_streamAt 26 = .ok (.isub, 1) := by decide +kernel
theorem dX12_streamAt_27 : decode cX12_streamAt 27 = .ok (.invokestatic 71, 3) := by decide +kernel
theorem dX12_streamAt_30 : decode cX12_streamAt 30 = .ok (.ifCond .eq 12, 3) := by decide +kernel
theorem dX12_streamAt_33 : decode cX12_streamAt 33 = .ok (.aload_n 0, 1) := by decide +kernel
theorem dX12_streamAt_34 : decode cX12_streamAt 34 = .ok (.getfield 31, 3) := by decide +kernel
theorem dX12_streamAt_37 : decode cX12_streamAt 37 = .ok (.iload_n 1, 1) := by decide +kernel
theorem dX12_streamAt_38 : decode cX12_streamAt 38 = .ok (.iaload, 1) := by decide +kernel
theorem dX12_streamAt_39 : decode cX12_streamAt 39 = .ok (.goto 8, 3) := by decide +kernel
theorem dX12_streamAt_42 : decode cX12_streamAt 42 = .ok (.aload_n 0, 1) := by decide +kernel
theorem dX12_streamAt_43 : decode cX12_streamAt 43 = .ok (.iconst 2, 1) := by decide +kernel
theorem dX12_streamAt_44 : decode cX12_streamAt 44 = .ok (.invokevirtual 75, 3) := by decide +kernel
theorem dX12_streamAt_47 : decode cX12_streamAt 47 = .ok (.ireturn, 1) := by decide +kernel
set_option maxRecDepth 20000 in
theorem ggX12_hasIndex_X12_isNot : GoodIn wsX12_hasIndex wsX12_isNot := goodIn_r _ [8, 1, 9, 10, 11, 12, 13, 14, 15, 16, 17, 18, 19, 20, 21, 22, 23, 24, 25, 26, 27, 28, 29, 30, 31, 32, 33] (by decide +kernel) (by decide +kernel)
set_option maxRecDepth 20000 in
theorem gX12_hasIndex_X12_isNot : GoodIn wsX12_hasIndex (wsV RX12 178 RX12 yX12_isNot wsX12_isNot) := goodIn_app (goodIn_of _ (by decide +kernel)) ggX12_hasIndex_X12_isNot
theorem dX12_hasIndex_0 : decode cX12_hasIndex 0 = .ok (.aload_n 0, 1) := by decide +kernel
theorem dX12_hasIndex_1 : decode cX12_hasIndex 1 = .ok (.iconst 0, 1) := by decide +kernel
theorem dX12_hasIndex_2 : decode cX12_hasIndex 2 = .ok (.putfield 59, 3) := by decide +kernel
theorem dX12_hasIndex_5 : decode cX12_hasIndex 5 = .ok (.aload_n 0, 1) := by decide +kernel
theorem dX12_hasIndex_6 : decode cX12_hasIndex 6 = .ok (.getfield 164, 3) := by decide +kernel
theorem dX12_hasIndex_9 : decode cX12_hasIndex 9 = .ok (.ifCond .eq 10, 3) := by decide +kernel
theorem dX12_hasIndex_12 : decode cX12_hasIndex 12 = .ok (.aload_n 0, 1) := by decide +kernel
theorem dX12_hasIndex_13 : decode cX12_hasIndex 13 = .ok (.getfield 230, 3) := by decide +kernel
theorem dX12_hasIndex_16 : decode cX12_hasIndex 16 = .ok (.goto 8, 3) := by decide +kernel
theorem dX12_hasIndex_19 : decode cX12_hasIndex 19 = .ok (.aload_n 0, 1) := by decide +kernel
theorem dX12_hasIndex_20 : decode cX12_hasIndex 20 = .ok (.iconst 1, 1) := by decide +kernel
theorem dX12_hasIndex_21 : decode cX12_hasIndex 21 = .ok (.invokevirtual 178, 3) := by decide +kernel
theorem dX12_hasIndex_24 : decode cX12_hasIndex 24 = .ok (.ireturn, 1) := by decide +kernel
set_option maxRecDepth 20000 in
theorem ggX12_found_X12_no : GoodIn wsX12_found wsX12_no := goodIn_r _ [8, 1, 9, 10, 11, 12, 13, 14, 15, 16, 17, 18, 19, 20, 21, 22, 23, 24, 25, 26, 27, 28, 29, 30, 31, 32, 33] (by decide +kernel) (by decide +kernel)
set_option maxRecDepth 20000 in
theorem gX12_found_X12_no : GoodIn wsX12_found (wsV RX12 75 RX12 yX12_no wsX12_no) := goodIn_app (goodIn_of _ (by decide +kernel)) ggX12_found_X12_no
theorem dX12_found_0 : decode cX12_found 0 = .ok (.aload_n 0, 1) := by decide +kernel
theorem dX12_found_1 : decode cX12_found 1 = .ok (.iconst 0, 1) := by decide +kernel
theorem dX12_found_2 : decode cX12_found 2 = .ok (.putfield 59, 3) := by decide +kernel
theorem dX12_found_5 : decode cX12_found 5 = .ok (.aload_n 0, 1) := by decide +kernel
theorem dX12_found_6 : decode cX12_found 6 = .ok (.getfield 164, 3) := by decide +kernel
theorem dX12_found_9 : decode cX12_found 9 = .ok (.ifCond .eq 10, 3) := by decide +kernel
theorem dX12_found_12 : decode cX12_found 12 = .ok (.aload_n 0, 1) := by decide +kernel
theorem dX12_found_13 : decode cX12_found 13 = .ok (.getfield 233, 3) := by decide +kernel
theorem dX12_found_16 : decode cX12_found 16 = .ok (.goto 8, 3) := by decide +kernel
theorem dX12_found_19 : decode cX12_found 19 = .ok (.aload_n 0, 1) := by decide +kernel
theorem dX12_found_20 : decode cX12_found 20 = .ok (.iconst 1, 1) := by decide +kernel
theorem dX12_found_21 : decode cX12_found 21 = .ok (.invokevirtual 75, 3) := by decide +kernel
theorem dX12_found_24 : decode cX12_found 24 = .ok (.ireturn, 1) := by decide +kernel
set_option maxRecDepth 20000 in
theorem ggX12_ofFound_X12_no : GoodIn wsX12_ofFound wsX12_no := goodIn_r _ [8, 1, 12, 13, 14, 15, 16, 17, 18, 19, 20, 21, 22, 23, 24, 25, 26, 27, 28, 29, 30, 31, 32, 33, 34, 35, 36] (by decide +kernel) (by decide +kernel)
set_option maxRecDepth 20000 in
theorem gX12_ofFound_X12_no : GoodIn wsX12_ofFound (wsV RX12 75 RX12 yX12_no wsX12_no) := goodIn_app (goodIn_of _ (by decide +kernel)) ggX12_ofFound_X12_no
set_option maxRecDepth 20000 in
theorem ggX12_ofFound_X12_isIn : GoodIn wsX12_ofFound wsX12_isIn := goodIn_r _ [11] (by decide +kernel) (by decide +kernel)
set_option maxRecDepth 20000 in
theorem gX12_ofFound_X12_isIn : GoodIn wsX12_ofFound (va_wsS RX12 71 yX12_isIn wsX12_isIn) := goodIn_app (goodIn_of _ (by decide +kernel)) ggX12_ofFound_X12_isIn
theorem dX12_ofFound_0 : decode cX12_ofFound 0 = .ok (.aload_n 0, 1) := by decide +kernel
theorem dX12_ofFound_1 : decode cX12_ofFound 1 = .ok (.iconst 0, 1) := by decide +kernel
theorem dX12_ofFound_2 : decode cX12_ofFound 2 = .ok (.putfield 59, 3) := by decide +kernel
theorem dX12_ofFound_5 : decode cX12_ofFound 5 = .ok (.aload_n 0, 1) := by decide +kernel
theorem dX12_ofFound_6 : decode cX12_ofFound 6 = .ok (.getfield 164, 3) := by decide +kernel
theorem dX12_ofFound_9 : decode cX12_ofFound 9 = .ok (.ifCond .ne 9, 3) := by decide +kernel
theorem dX12_ofFound_12 : decode cX12_ofFound 12 = .ok (.aload_n 0, 1) := by decide +kernel
theorem dX12_ofFound_13 : decode cX12_ofFound 13 = .ok (.iconst 1, 1) := by decide +kernel
theorem dX12_ofFound_14 : decode cX12_ofFound 14 = .ok (.invokevirtual 75, 3) := by decide +kernel
theorem dX12_ofFound_17 : decode cX12_ofFound 17 = .ok (.ireturn, 1) := by decide +kernel
theorem dX12_ofFound_18 : decode cX12_ofFound 18 = .ok (.iload_n 1, 1) := by decide +kernel
theorem dX12_ofFound_19 : decode cX12_ofFound 19 = .ok (.iconst 0, 1) := by decide +kernel
theorem dX12_ofFound_20 : decode cX12_ofFound 20 = .ok (.aload_n 0, 1) := by decide +kernel
theorem dX12_ofFound_21 : decode cX12_ofFound 21 = .ok (.getfield 233, 3) := by decide +kernel
theorem dX12_ofFound_24 : decode cX12_ofFound 24 = .ok (.iconst 1, 1) := by decide +kernel
theorem dX12_ofFound_25 : decode cX12_ofFound 25 = .ok (.isub, 1) := by decide +kernel
theorem dX12_ofFound_26 : decode cX12_ofFound 26 = .ok (.invokestatic 71, 3) := by decide +kernel
theorem dX12_ofFound_29 : decode cX12_ofFound 29 = .ok (.ifCond .eq 9, 3) := by decide +kernel
theorem dX12_ofFound_32 : decode cX12_ofFound 32 = .ok (.aload_n 2, 1) := by decide +kernel
theorem dX12_ofFound_33 : decode cX12_ofFound 33 = .ok (.iload_n 1, 1) := by decide +kernel
theorem dX12_ofFound_34 : decode cX12_ofFound 34 = .ok (.iaload, 1) := by decide +kernel
theorem dX12_ofFound_35 : decode cX12_ofFound 35 = .ok (.goto 8, 3) := by decide +kernel
theorem dX12_ofFound_38 : decode cX12_ofFound 38 = .ok (.aload_n 0, 1) := by decide +kernel
theorem dX12_ofFound_39 : decode cX12_ofFound 39 = .ok (.iconst 2, 1) := by decide +kernel
theorem dX12_ofFound_40 : decode cX12_ofFound 40 = .ok (.invokevirtual 75, 3) := by decide +kernel
theorem dX12_ofFound_43 : decode cX12_ofFound 43 = .ok (.ireturn, 1) := by decide +kernel
set_option maxRecDepth 20000 in
theorem ggX12_keyFound_X12_ofFound : GoodIn wsX12_keyFound wsX12_ofFound := goodIn_r _ [6, 7, 8, 9, 10, 11, 12, 5, 13, 14, 15, 16, 17, 18, 19, 20, 21, 22, 23, 24, 25, 26, 27, 28, 29, 30, 31, 32, 33, 34, 35, 36, 37, 38, 39, 40, 41] (by decide +kernel) (by decide +kernel)
set_option maxRecDepth 20000 in
theorem gX12_keyFound_X12_ofFound : GoodIn wsX12_keyFound (wsV RX12 250 RX12 yX12_ofFound wsX12_ofFound) := goodIn_app (goodIn_of _ (by decide +kernel)) ggX12_keyFound_X12_ofFound
theorem dX12_keyFound_0 : decode cX12_keyFound 0 = .ok (.aload_n 0, 1) := by decide +kernel
theorem dX12_keyFound_1 : decode cX12_keyFound 1 = .ok (.iload_n 1, 1) := by decide +kernel
theorem dX12_keyFound_2 : decode cX12_keyFound 2 = .ok (.aload_n 0, 1) := by decide +kernel
theorem dX12_keyFound_3 : decode cX12_keyFound 3 = .ok (.getfield 34, 3) := by decide +kernel
theorem dX12_keyFound_6 : decode cX12_keyFound 6 = .ok (.invokevirtual 250, 3) := by decide +kernel
theorem dX12_keyFound_9 : decode cX12_keyFound 9 = .ok (.ireturn, 1) := by decide +kernel
set_option maxRecDepth 20000 in
theorem ggX12_placeFound_X12_ofFound : GoodIn wsX12_placeFound wsX12_ofFound := goodIn_r _ [6, 7, 8, 9, 10, 11, 12, 5, 13, 14, 15, 16, 17, 18, 19, 20, 21, 22, 23, 24, 25, 26, 27, 28, 29, 30, 31, 32, 33, 34, 35, 36, 37, 38, 39, 40, 41] (by decide +kernel) (by decide +kernel)
set_option maxRecDepth 20000 in
theorem gX12_placeFound_X12_ofFound : GoodIn wsX12_placeFound (wsV RX12 250 RX12 yX12_ofFound wsX12_ofFound) := goodIn_app (goodIn_of _ (by decide +kernel)) ggX12_placeFound_X12_ofFound
theorem dX12_placeFound_0 : decode cX12_placeFound 0 = .ok (.aload_n 0, 1) := by decide +kernel
theorem dX12_placeFound_1 : decode cX12_placeFound 1 = .ok (.iload_n 1, 1) := by decide +kernel
theorem dX12_placeFound_2 : decode cX12_placeFound 2 = .ok (.aload_n 0, 1) := by decide +kernel
theorem dX12_placeFound_3 : decode cX12_placeFound 3 = .ok (.getfield 37, 3) := by decide +kernel
theorem dX12_placeFound_6 : decode cX12_placeFound 6 = .ok (.invokevirtual 250, 3) := by decide +kernel
theorem dX12_placeFound_9 : decode cX12_placeFound 9 = .ok (.ireturn, 1) := by decide +kernel
set_option maxRecDepth 20000 in
theorem ggX12_isGood_X12_ofFound : GoodIn wsX12_isGood wsX12_ofFound := goodIn_r _ [7, 2, 8, 9, 10, 11, 12, 6, 13, 14, 15, 16, 17, 18, 19, 20, 21, 22, 23, 24, 25, 26, 27, 28, 29, 30, 31, 32, 33, 34, 35, 36, 37, 38, 39, 40, 41] (by decide +kernel) (by decide +kernel)
set_option maxRecDepth 20000 in
theorem gX12_isGood_X12_ofFound : GoodIn wsX12_isGood (wsV RX12 250 RX12 yX12_ofFound wsX12_ofFound) := goodIn_app (goodIn_of _ (by decide +kernel)) ggX12_isGood_X12_ofFound
theorem dX12_isGood_0 : decode cX12_isGood 0 = .ok (.aload_n 0, 1) := by decide +kernel
theorem dX12_isGood_1 : decode cX12_isGood 1 = .ok (.iload_n 1, 1) := by decide +kernel
theorem dX12_isGood_2 : decode cX12_isGood 2 = .ok (.aload_n 0, 1) := by decide +kernel
theorem dX12_isGood_3 : decode cX12_isGood 3 = .ok (.getfield 43, 3) := by decide +kernel
theorem dX12_isGood_6 : decode cX12_isGood 6 = .ok (.invokevirtual 250, 3) := by decide +kernel
theorem dX12_isGood_9 : decode cX12_isGood 9 = .ok (.istore_n 2, 1) := by decide +kernel
theorem dX12_isGood_10 : decode cX12_isGood 10 = .ok (.aload_n 0, 1) := by decide +kernel
theorem dX12_isGood_11 : decode cX12_isGood 11 = .ok (.getfield 59, 3) := by decide +kernel
theorem dX12_isGood_14 : decode cX12_isGood 14 = .ok (.ifCond .ne 12, 3) := by decide +kernel
theorem dX12_isGood_17 : decode cX12_isGood 17 = .ok (.iload_n 2, 1) := by decide +kernel
theorem dX12_isGood_18 : decode cX12_isGood 18 = .ok (.iconst (-1), 1) := by decide +kernel
theorem dX12_isGood_19 : decode cX12_isGood 19 = .ok (.if_icmp .eq 7, 3) := by decide +kernel
theorem dX12_isGood_22 : decode cX12_isGood 22 = .ok (.iconst 1, 1) := by decide +kernel
theorem dX12_isGood_23 : decode cX12_isGood 23 = .ok (.goto 4, 3) := by decide +kernel
theorem dX12_isGood_26 : decode cX12_isGood 26 = .ok (.iconst 0, 1) := by decide +kernel
theorem dX12_isGood_27 : decode cX12_isGood 27 = .ok (.ireturn, 1) := by decide +kernel
set_option maxRecDepth 20000 in
theorem ggX12_lengthFound_X12_ofFound : GoodIn wsX12_lengthFound wsX12_ofFound := goodIn_r _ [6, 7, 8, 9, 10, 11, 12, 5, 13, 14, 15, 16, 17, 18, 19, 20, 21, 22, 23, 24, 25, 26, 27, 28, 29, 30, 31, 32, 33, 34, 35, 36, 37, 38, 39, 40, 41] (by decide +kernel) (by decide +kernel)
set_option maxRecDepth 20000 in
theorem gX12_lengthFound_X12_ofFound : GoodIn wsX12_lengthFound (wsV RX12 250 RX12 yX12_ofFound wsX12_ofFound) := goodIn_app (goodIn_of _ (by decide +kernel)) ggX12_lengthFound_X12_ofFound
theorem dX12_lengthFound_0 : decode cX12_lengthFound 0 = .ok (.aload_n 0, 1) := by decide +kernel
theorem dX12_lengthFound_1 : decode cX12_lengthFound 1 = .ok (.iload_n 1, 1) := by decide +kernel
theorem dX12_lengthFound_2 : decode cX12_lengthFound 2 = .ok (.aload_n 0, 1) := by decide +kernel
theorem dX12_lengthFound_3 : decode cX12_lengthFound 3 = .ok (.getfield 43, 3) := by decide +kernel
theorem dX12_lengthFound_6 : decode cX12_lengthFound 6 = .ok (.invokevirtual 250, 3) := by decide +kernel
theorem dX12_lengthFound_9 : decode cX12_lengthFound 9 = .ok (.ireturn, 1) := by decide +kernel
set_option maxRecDepth 20000 in
theorem ggX12_byteFound_X12_ofFound : GoodIn wsX12_byteFound wsX12_ofFound := goodIn_r _ [8, 2, 9, 10, 11, 12, 13, 7, 14, 15, 16, 17, 46, 47, 48, 49, 50, 51, 52, 53, 54, 55, 56, 57, 58, 59, 60, 61, 62, 63, 64, 65, 66, 67, 68, 69, 70] (by decide +kernel) (by decide +kernel)
set_option maxRecDepth 20000 in
theorem gX12_byteFound_X12_ofFound : GoodIn wsX12_byteFound (wsV RX12 250 RX12 yX12_ofFound wsX12_ofFound) := goodIn_app (goodIn_of _ (by decide +kernel)) ggX12_byteFound_X12_ofFound
set_option maxRecDepth 20000 in
theorem ggX12_byteFound_X12_isIn : GoodIn wsX12_byteFound wsX12_isIn := goodIn_r _ [17] (by decide +kernel) (by decide +kernel)
set_option maxRecDepth 20000 in
theorem gX12_byteFound_X12_isIn : GoodIn wsX12_byteFound (va_wsS RX12 71 yX12_isIn wsX12_isIn) := goodIn_app (goodIn_of _ (by decide +kernel)) ggX12_byteFound_X12_isIn
set_option maxRecDepth 20000 in
theorem ggX12_byteFound_X12_no : GoodIn wsX12_byteFound wsX12_no := goodIn_r _ [14, 2, 46, 47, 48, 49, 50, 51, 52, 53, 54, 55, 56, 57, 58, 59, 60, 61, 62, 63, 64, 65, 66, 67, 68, 69, 70] (by decide +kernel) (by decide +kernel)
set_option maxRecDepth 20000 in
theorem gX12_byteFound_X12_no : GoodIn wsX12_byteFound (wsV RX12 75 RX12 yX12_no wsX12_no) := goodIn_app (goodIn_of _ (by decide +kernel)) ggX12_byteFound_X12_no
set_option maxRecDepth 20000 in
theorem ggX12_byteFound_X12_read : GoodIn wsX12_byteFound wsX12_read := goodIn_r _ [21, 22, 23, 24, 25, 3, 26, 27, 28, 7, 29, 30, 31, 32, 33, 34, 35, 36, 37, 38, 39, 40, 41, 42, 43, 44, 45, 46, 47, 48, 49, 50, 51, 52, 53, 54, 55, 56, 57, 58, 59, 60, 61, 62, 63, 64, 65, 66, 67, 68, 69, 70] (by decide +kernel) (by decide +kernel)
set_option maxRecDepth 20000 in
theorem gX12_byteFound_X12_read : GoodIn wsX12_byteFound (wsV RX12 243 RX12 yX12_read wsX12_read) := goodIn_app (goodIn_of _ (by decide +kernel)) ggX12_byteFound_X12_read
theorem dX12_byteFound_0 : decode cX12_byteFound 0 = .ok (.aload_n 0, 1) := by decide +kernel
theorem dX12_byteFound_1 : decode cX12_byteFound 1 = .ok (.iload_n 1, 1) := by decide +kernel
theorem dX12_byteFound_2 : decode cX12_byteFound 2 = .ok (.aload_n 0, 1) := by decide +kernel
theorem dX12_byteFound_3 : decode cX12_byteFound 3 = .ok (.getfield 43, 3) := by decide +kernel
theorem dX12_byteFound_6 : decode cX12_byteFound 6 = .ok (.invokevirtual 250, 3) := by decide +kernel
theorem dX12_byteFound_9 : decode cX12_byteFound 9 = .ok (.istore_n 3, 1) := by decide +kernel
theorem dX12_byteFound_10 : decode cX12_byteFound 10 = .ok (.aload_n 0, 1) := by decide +kernel
theorem dX12_byteFound_11 : decode cX12_byteFound 11 = .ok (.getfield 59, 3) := by decide +kernel
theorem dX12_byteFound_14 : decode cX12_byteFound 14 = .ok (.ifCond .eq 5, 3) := by decide +kernel
theorem dX12_byteFound_17 : decode cX12_byteFound 17 = .ok (.iconst 0, 1) := by decide +kernel
theorem dX12_byteFound_18 : decode cX12_byteFound 18 = .ok (.ireturn, 1) := by decide +kernel
theorem dX12_byteFound_19 : decode cX12_byteFound 19 = .ok (.iload_n 3, 1) := by decide +kernel
theorem dX12_byteFound_20 : decode cX12_byteFound 20 = .ok (.iconst (-1), 1) := by decide +kernel
theorem dX12_byteFound_21 : decode cX12_byteFound 21 = .ok (.if_icmp .eq 14, 3) := by decide +kernel
theorem dX12_byteFound_24 : decode cX12_byteFound 24 = .ok (.iload_n 2, 1) := by decide +kernel
theorem dX12_byteFound_25 : decode cX12_byteFound 25 = .ok (.iconst 0, 1) := by decide +kernel
theorem dX12_byteFound_26 : decode cX12_byteFound 26 = .ok (.iload_n 3, 1) := by decide +kernel
theorem dX12_byteFound_27 : decode cX12_byteFound 27 = .ok (.iconst 1, 1) := by decide +kernel
theorem dX12_byteFound_28 : decode cX12_byteFound 28 = .ok (.isub, 1) := by decide +kernel
theorem dX12_byteFound_29 : decode cX12_byteFound 29 = .ok (.invokestatic 71, 3) := by decide +kernel
theorem dX12_byteFound_32 : decode cX12_byteFound 32 = .ok (.ifCond .ne 9, 3) := by decide +kernel
theorem dX12_byteFound_35 : decode cX12_byteFound 35 = .ok (.aload_n 0, 1) := by decide +kernel
theorem dX12_byteFound_36 : decode cX12_byteFound 36 = .ok (.iconst 2, 1) := by decide +kernel
theorem dX12_byteFound_37 : decode cX12_byteFound 37 = .ok (.invokevirtual 75, 3) := by decide +kernel
theorem dX12_byteFound_40 : decode cX12_byteFound 40 = .ok (.ireturn, 1) := by decide +kernel
theorem dX12_byteFound_41 : decode cX12_byteFound 41 = .ok (.aload_n 0, 1) := by decide +kernel
theorem dX12_byteFound_42 : decode cX12_byteFound 42 = .ok (.iload_n 1, 1) := by decide +kernel
theorem dX12_byteFound_43 : decode cX12_byteFound 43 = .ok (.invokevirtual 243, 3) := by decide +kernel
theorem dX12_byteFound_46 : decode cX12_byteFound 46 = .ok (.pop, 1) := by decide +kernel
theorem dX12_byteFound_47 : decode cX12_byteFound 47 = .ok (.aload_n 0, 1) := by decide +kernel
theorem dX12_byteFound_48 : decode cX12_byteFound 48 = .ok (.getfield 49, 3) := by decide +kernel
theorem dX12_byteFound_51 : decode cX12_byteFound 51 = .ok (.iload_n 2, 1) := by decide +kernel
theorem dX12_byteFound_52 : decode cX12_byteFound 52 = .ok (.iaload, 1) := by decide +kernel
theorem dX12_byteFound_53 : decode cX12_byteFound 53 = .ok (.ireturn, 1) := by decide +kernel
set_option maxRecDepth 20000 in
theorem ggX12_restore_X12_no : GoodIn wsX12_restore wsX12_no := goodIn_r _ [12, 1, 59, 60, 61, 62, 63, 64, 65, 66, 67, 68, 69, 70, 71, 72, 73, 74, 75, 76, 77, 78, 79, 80, 81, 82, 83] (by decide +kernel) (by decide +kernel)
set_option maxRecDepth 20000 in
theorem gX12_restore_X12_no : GoodIn wsX12_restore (wsV RX12 75 RX12 yX12_no wsX12_no) := goodIn_app (goodIn_of _ (by decide +kernel)) ggX12_restore_X12_no
set_option maxRecDepth 20000 in
theorem ggX12_restore_X12_placeOf : GoodIn wsX12_restore wsX12_placeOf := goodIn_r _ [16, 5, 17, 59, 60, 61, 62, 63, 64, 65, 66, 67, 68, 69, 70, 71, 72, 73, 74, 75, 76, 77, 78, 79, 80, 81, 82, 83] (by decide +kernel) (by decide +kernel)
set_option maxRecDepth 20000 in
theorem gX12_restore_X12_placeOf : GoodIn wsX12_restore (wsV RX12 104 RX12 yX12_placeOf wsX12_placeOf) := goodIn_app (goodIn_of _ (by decide +kernel)) ggX12_restore_X12_placeOf
set_option maxRecDepth 20000 in
theorem ggX12_restore_X12_read : GoodIn wsX12_restore wsX12_read := goodIn_r _ [21, 22, 23, 6, 24, 7, 25, 26, 27, 11, 28, 29, 30, 31, 32, 33, 34, 35, 36, 37, 38, 39, 40, 41, 42, 43, 44, 59, 60, 61, 62, 63, 64, 65, 66, 67, 68, 69, 70, 71, 72, 73, 74, 75, 76, 77, 78, 79, 80, 81, 82, 83] (by decide +kernel) (by decide +kernel)
set_option maxRecDepth 20000 in
theorem gX12_restore_X12_read : GoodIn wsX12_restore (wsV RX12 243 RX12 yX12_read wsX12_read) := goodIn_app (goodIn_of _ (by decide +kernel)) ggX12_restore_X12_read
set_option maxRecDepth 20000 in
theorem ggX12_restore_X12_put : GoodIn wsX12_restore wsX12_put := goodIn_r _ [48, 5, 17, 49, 50, 51, 52, 53, 54, 13, 14, 15, 11, 16, 55, 56, 57, 58, 59, 60, 61, 62, 63, 64, 65, 66, 67, 68, 69, 70, 71, 72, 73, 74, 75, 76, 77, 78, 79, 80, 81, 82, 83] (by decide +kernel) (by decide +kernel)
set_option maxRecDepth 20000 in
theorem gX12_restore_X12_put : GoodIn wsX12_restore (wsV RX12 111 RX12 yX12_put wsX12_put) := goodIn_app (goodIn_of _ (by decide +kernel)) ggX12_restore_X12_put
theorem dX12_restore_0 : decode cX12_restore 0 = .ok (.aload_n 0, 1) := by decide +kernel
theorem dX12_restore_1 : decode cX12_restore 1 = .ok (.iconst 0, 1) := by decide +kernel
theorem dX12_restore_2 : decode cX12_restore 2 = .ok (.putfield 59, 3) := by decide +kernel
theorem dX12_restore_5 : decode cX12_restore 5 = .ok (.aload_n 0, 1) := by decide +kernel
theorem dX12_restore_6 : decode cX12_restore 6 = .ok (.getfield 164, 3) := by decide +kernel
theorem dX12_restore_9 : decode cX12_restore 9 = .ok (.ifCond .ne 9, 3) := by decide +kernel
theorem dX12_restore_12 : decode cX12_restore 12 = .ok (.aload_n 0, 1) := by decide +kernel
theorem dX12_restore_13 : decode cX12_restore 13 = .ok (.iconst 1, 1) := by decide +kernel
theorem dX12_restore_14 : decode cX12_restore 14 = .ok (.invokevirtual 75, 3) := by decide +kernel
theorem dX12_restore_17 : decode cX12_restore 17 = .ok (.ireturn, 1) := by decide +kernel
theorem dX12_restore_18 : decode cX12_restore 18 = .ok (.iconst 0, 1) := by decide +kernel
theorem dX12_restore_19 : decode cX12_restore 19 = .ok (.istore_n 1, 1) := by decide +kernel
theorem dX12_restore_20 : decode cX12_restore 20 = .ok (.iconst 0, 1) := by decide +kernel
theorem dX12_restore_21 : decode cX12_restore 21 = .ok (.istore_n 2, 1) := by decide +kernel
theorem dX12_restore_22 : decode cX12_restore 22 = .ok (.iload_n 2, 1) := by decide +kernel
theorem dX12_restore_23 : decode cX12_restore 23 = .ok (.aload_n 0, 1) := by decide +kernel
theorem dX12_restore_24 : decode cX12_restore 24 = .ok (.getfield 233, 3) := by decide +kernel
theorem dX12_restore_27 : decode cX12_restore 27 = .ok (.if_icmp .ge 67, 3) := by decide +kernel
theorem dX12_restore_30 : decode cX12_restore 30 = .ok (.aload_n 0, 1) := by decide +kernel
theorem dX12_restore_31 : decode cX12_restore 31 = .ok (.getfield 43, 3) := by decide +kernel
theorem dX12_restore_34 : decode cX12_restore 34 = .ok (.iload_n 2, 1) := by decide +kernel
theorem dX12_restore_35 : decode cX12_restore 35 = .ok (.iaload, 1) := by decide +kernel
theorem dX12_restore_36 : decode cX12_restore 36 = .ok (.iconst (-1), 1) := by decide +kernel
theorem dX12_restore_37 : decode cX12_restore 37 = .ok (.if_icmp .eq 51, 3) := by decide +kernel
theorem dX12_restore_40 : decode cX12_restore 40 = .ok (.aload_n 0, 1) := by decide +kernel
theorem dX12_restore_41 : decode cX12_restore 41 = .ok (.getfield 95, 3) := by decide +kernel
theorem dX12_restore_44 : decode cX12_restore 44 = .ok (.bipush 16, 2) := by decide +kernel
theorem dX12_restore_46 : decode cX12_restore 46 = .ok (.if_icmp .ne 20, 3) := by decide +kernel
theorem dX12_restore_49 : decode cX12_restore 49 = .ok (.aload_n 0, 1) := by decide +kernel
theorem dX12_restore_50 : decode cX12_restore 50 = .ok (.aload_n 0, 1) := by decide +kernel
theorem dX12_restore_51 : decode cX12_restore 51 = .ok (.getfield 34, 3) := by decide +kernel
theorem dX12_restore_54 : decode cX12_restore 54 = .ok (.iload_n 2, 1) := by decide +kernel
theorem dX12_restore_55 : decode cX12_restore 55 = .ok (.iaload, 1) := by decide +kernel
theorem dX12_restore_56 : decode cX12_restore 56 = .ok (.invokevirtual 104, 3) := by decide +kernel
theorem dX12_restore_59 : decode cX12_restore 59 = .ok (.iconst (-1), 1) := by decide +kernel
theorem dX12_restore_60 : decode cX12_restore 60 = .ok (.if_icmp .ne 6, 3) := by decide +kernel
theorem dX12_restore_63 : decode cX12_restore 63 = .ok (.goto 25, 3) := by decide +kernel
theorem dX12_restore_66 : decode cX12_restore 66 = .ok (.aload_n 0, 1) := by decide +kernel
theorem dX12_restore_67 : decode cX12_restore 67 = .ok (.aload_n 0, 1) := by decide +kernel
theorem dX12_restore_68 : decode cX12_restore 68 = .ok (.getfield 34, 3) := by decide +kernel
theorem dX12_restore_71 : decode cX12_restore 71 = .ok (.iload_n 2, 1) := by decide +kernel
theorem dX12_restore_72 : decode cX12_restore 72 = .ok (.iaload, 1) := by decide +kernel
theorem dX12_restore_73 : decode cX12_restore 73 = .ok (.aload_n 0, 1) := by decide +kernel
theorem dX12_restore_74 : decode cX12_restore 74 = .ok (.getfield 49, 3) := by decide +kernel
theorem dX12_restore_77 : decode cX12_restore 77 = .ok (.aload_n 0, 1) := by decide +kernel
theorem dX12_restore_78 : decode cX12_restore 78 = .ok (.iload_n 2, 1) := by decide +kernel
theorem dX12_restore_79 : decode cX12_restore 79 = .ok (.invokevirtual 243, 3) := by decide +kernel
theorem dX12_restore_82 : decode cX12_restore 82 = .ok (.invokevirtual 111, 3) := by decide +kernel
theorem dX12_restore_85 : decode cX12_restore 85 = .ok (.iinc 1 1, 3) := by decide +kernel
theorem dX12_restore_88 : decode cX12_restore 88 = .ok (.iinc 2 1, 3) := by decide +kernel
theorem dX12_restore_91 : decode cX12_restore 91 = .ok (.goto (-69), 3) := by decide +kernel
theorem dX12_restore_94 : decode cX12_restore 94 = .ok (.iload_n 1, 1) := by decide +kernel
theorem dX12_restore_95 : decode cX12_restore 95 = .ok (.ireturn, 1) := by decide +kernel
theorem dX12_cost_0 : decode cX12_cost 0 = .ok (.aload_n 0, 1) := by decide +kernel
theorem dX12_cost_1 : decode cX12_cost 1 = .ok (.iconst 0, 1) := by decide +kernel
theorem dX12_cost_2 : decode cX12_cost 2 = .ok (.putfield 59, 3) := by decide +kernel
theorem dX12_cost_5 : decode cX12_cost 5 = .ok (.iconst 0, 1) := by decide +kernel
theorem dX12_cost_6 : decode cX12_cost 6 = .ok (.istore_n 1, 1) := by decide +kernel
theorem dX12_cost_7 : decode cX12_cost 7 = .ok (.iconst 0, 1) := by decide +kernel
theorem dX12_cost_8 : decode cX12_cost 8 = .ok (.istore_n 2, 1) := by decide +kernel
theorem dX12_cost_9 : decode cX12_cost 9 = .ok (.iconst 0, 1) := by decide +kernel
theorem dX12_cost_10 : decode cX12_cost 10 = .ok (.istore_n 3, 1) := by decide +kernel
theorem dX12_cost_11 : decode cX12_cost 11 = .ok (.iload_n 3, 1) := by decide +kernel
theorem dX12_cost_12 : decode cX12_cost 12 = .ok (.bipush 16, 2) := by decide +kernel
theorem dX12_cost_14 : decode cX12_cost 14 = .ok (.if_icmp .ge 22, 3) := by decide +kernel
theorem dX12_cost_17 : decode cX12_cost 17 = .ok (.iload_n 1, 1) := by decide +kernel
theorem dX12_cost_18 : decode cX12_cost 18 = .ok (.iconst 0, 1) := by decide +kernel
theorem dX12_cost_19 : decode cX12_cost 19 = .ok (.aload_n 0, 1) := by decide +kernel
theorem dX12_cost_20 : decode cX12_cost 20 = .ok (.getfield 28, 3) := by decide +kernel
theorem dX12_cost_23 : decode cX12_cost 23 = .ok (.iload_n 3, 1) := by decide +kernel
theorem dX12_cost_24 : decode cX12_cost 24 = .ok (.iaload, 1) := by decide +kernel
theorem dX12_cost_25 : decode cX12_cost 25 = .ok (.invokestatic 254, 3) := by decide +kernel
theorem dX12_cost_28 : decode cX12_cost 28 = .ok (.iadd, 1) := by decide +kernel
theorem dX12_cost_29 : decode cX12_cost 29 = .ok (.istore_n 1, 1) := by decide +kernel
theorem dX12_cost_30 : decode cX12_cost 30 = .ok (.iinc 3 1, 3) := by decide +kernel
theorem dX12_cost_33 : decode cX12_cost 33 = .ok (.goto (-22), 3) := by decide +kernel
theorem dX12_cost_36 : decode cX12_cost 36 = .ok (.iconst 0, 1) := by decide +kernel
theorem dX12_cost_37 : decode cX12_cost 37 = .ok (.istore_n 3, 1) := by decide +kernel
theorem dX12_cost_38 : decode cX12_cost 38 = .ok (.iload_n 3, 1) := by decide +kernel
theorem dX12_cost_39 : decode cX12_cost 39 = .ok (.aload_n 0, 1) := by decide +kernel
theorem dX12_cost_40 : decode cX12_cost 40 = .ok (.getfield 95, 3) := by decide +kernel
theorem dX12_cost_43 : decode cX12_cost 43 = .ok (.if_icmp .ge 18, 3) := by decide +kernel
theorem dX12_cost_46 : decode cX12_cost 46 = .ok (.iload_n 2, 1) := by decide +kernel
theorem dX12_cost_47 : decode cX12_cost 47 = .ok (.aload_n 0, 1) := by decide +kernel
theorem dX12_cost_48 : decode cX12_cost 48 = .ok (.getfield 16, 3) := by decide +kernel
theorem dX12_cost_51 : decode cX12_cost 51 = .ok (.iload_n 3, 1) := by decide +kernel
theorem dX12_cost_52 : decode cX12_cost 52 = .ok (.iaload, 1) := by decide +kernel
theorem dX12_cost_53 : decode cX12_cost 53 = .ok (.iadd, 1) := by decide +kernel
theorem dX12_cost_54 : decode cX12_cost 54 = .ok (.istore_n 2, 1) := by decide +kernel
theorem dX12_cost_55 : decode cX12_cost 55 = .ok (.iinc 3 1, 3) := by decide +kernel
theorem dX12_cost_58 : decode cX12_cost 58 = .ok (.goto (-20), 3) := by decide +kernel
theorem dX12_cost_61 : decode cX12_cost 61 = .ok (.iload_n 2, 1) := by decide +kernel
theorem dX12_cost_62 : decode cX12_cost 62 = .ok (.ifCond .ne 7, 3) := by decide +kernel
theorem dX12_cost_65 : decode cX12_cost 65 = .ok (.dconst 0, 1) := by decide +kernel
theorem dX12_cost_66 : decode cX12_cost 66 = .ok (.goto 8, 3) := by decide +kernel
theorem dX12_cost_69 : decode cX12_cost 69 = .ok (.iload_n 1, 1) := by decide +kernel
theorem dX12_cost_70 : decode cX12_cost 70 = .ok (.i2d, 1) := by decide +kernel
theorem dX12_cost_71 : decode cX12_cost 71 = .ok (.iload_n 2, 1) := by decide +kernel
theorem dX12_cost_72 : decode cX12_cost 72 = .ok (.i2d, 1) := by decide +kernel
theorem dX12_cost_73 : decode cX12_cost 73 = .ok (.ddiv, 1) := by decide +kernel
theorem dX12_cost_74 : decode cX12_cost 74 = .ok (.dreturn, 1) := by decide +kernel
set_option maxRecDepth 20000 in
theorem ggX12_digest_X12_streamSize : GoodIn wsX12_digest wsX12_streamSize := goodIn_r _ [25, 3, 6, 7, 26, 27, 28, 29, 30, 31, 32, 24, 33, 34, 35, 36, 37, 71, 72, 73, 74, 75, 76, 77, 78, 79, 80, 81, 82, 83, 84, 85, 86, 87, 88, 89, 90, 91, 92, 93, 94, 95] (by decide +kernel) (by decide +kernel)
set_option maxRecDepth 20000 in
theorem gX12_digest_X12_streamSize : GoodIn wsX12_digest (wsV RX12 135 RX12 yX12_streamSize wsX12_streamSize) := goodIn_app (goodIn_of _ (by decide +kernel)) ggX12_digest_X12_streamSize
set_option maxRecDepth 20000 in
theorem ggX12_digest_X12_check : GoodIn wsX12_digest wsX12_check := goodIn_r _ [40, 41, 42, 43, 24, 44, 45, 46] (by decide +kernel) (by decide +kernel)
set_option maxRecDepth 20000 in
theorem gX12_digest_X12_check : GoodIn wsX12_digest (va_wsS RX12 122 yX12_check wsX12_check) := goodIn_app (goodIn_of _ (by decide +kernel)) ggX12_digest_X12_check
set_option maxRecDepth 20000 in
theorem ggX12_digest_X12_pack : GoodIn wsX12_digest wsX12_pack := goodIn_r _ [33, 34, 35, 36, 24, 37, 71, 72, 73, 74, 75, 76, 77, 78, 79, 80, 81, 82, 83, 84, 85, 86, 87, 88, 89, 90, 91, 92, 93, 94, 95] (by decide +kernel) (by decide +kernel)
set_option maxRecDepth 20000 in
theorem gX12_digest_X12_pack : GoodIn wsX12_digest (wsV RX12 126 RX12 yX12_pack wsX12_pack) := goodIn_app (goodIn_of _ (by decide +kernel)) ggX12_digest_X12_pack
set_option maxRecDepth 20000 in
theorem ggX12_digest_X12_look : GoodIn wsX12_digest wsX12_look := goodIn_r _ [50, 12, 13, 9, 10, 11, 51, 52, 53, 24, 54, 8, 55, 56, 57, 58, 59, 60, 61, 62, 63, 64, 65, 66, 38, 39, 40, 41, 42, 43, 44, 45, 46, 71, 72, 73, 74, 75, 76, 77, 78, 79, 80, 81, 82, 83, 84, 85, 86, 87, 88, 89, 90, 91, 92, 93, 94, 95] (by decide +kernel) (by decide +kernel)
set_option maxRecDepth 20000 in
theorem gX12_digest_X12_look : GoodIn wsX12_digest (wsV RX12 193 RX12 yX12_look wsX12_look) := goodIn_app (goodIn_of _ (by decide +kernel)) ggX12_digest_X12_look
set_option maxRecDepth 20000 in
theorem ggX12_digest_X12_spareNow : GoodIn wsX12_digest wsX12_spareNow := goodIn_r _ [70, 12, 13, 11, 71, 72, 73, 74, 75, 76, 77, 78, 79, 80, 81, 82, 83, 84, 85, 86, 87, 88, 89, 90, 91, 92, 93, 94, 95] (by decide +kernel) (by decide +kernel)
set_option maxRecDepth 20000 in
theorem gX12_digest_X12_spareNow : GoodIn wsX12_digest (wsV RX12 196 RX12 yX12_spareNow wsX12_spareNow) := goodIn_app (goodIn_of _ (by decide +kernel)) ggX12_digest_X12_spareNow
theorem dX12_digest_0 : decode cX12_digest 0 = .ok (.aload_n 0, 1) := by decide +kernel
theorem dX12_digest_1 : decode cX12_digest 1 = .ok (.iconst 0, 1) := by decide +kernel
theorem dX12_digest_2 : decode cX12_digest 2 = .ok (.putfield 59, 3) := by decide +kernel
theorem dX12_digest_5 : decode cX12_digest 5 = .ok (.ldc2_w 257, 3) := by decide +kernel
theorem dX12_digest_8 : decode cX12_digest 8 = .ok (.aload_n 0, 1) := by decide +kernel
theorem dX12_digest_9 : decode cX12_digest 9 = .ok (.getfield 95, 3) := by decide +kernel
theorem dX12_digest_12 : decode cX12_digest 12 = .ok (.i2l, 1) := by decide +kernel
theorem dX12_digest_13 : decode cX12_digest 13 = .ok (.ladd, 1) := by decide +kernel
theorem dX12_digest_14 : decode cX12_digest 14 = .ok (.ldc2_w 259, 3) := by decide +kernel
theorem dX12_digest_17 : decode cX12_digest 17 = .ok (.lmul, 1) := by decide +kernel
theorem dX12_digest_18 : decode cX12_digest 18 = .ok (.aload_n 0, 1) := by decide +kernel
theorem dX12_digest_19 : decode cX12_digest 19 = .ok (.invokevirtual 135, 3) := by decide +kernel
theorem dX12_digest_22 : decode cX12_digest 22 = .ok (.i2l, 1) := by decide +kernel
theorem dX12_digest_23 : decode cX12_digest 23 = .ok (.ladd, 1) := by decide +kernel
theorem dX12_digest_24 : decode cX12_digest 24 = .ok (.lstore_n 1, 1) := by decide +kernel
theorem dX12_digest_25 : decode cX12_digest 25 = .ok (.iconst 0, 1) := by decide +kernel
theorem dX12_digest_26 : decode cX12_digest 26 = .ok (.istore_n 3, 1) := by decide +kernel
theorem dX12_digest_27 : decode cX12_digest 27 = .ok (.iload_n 3, 1) := by decide +kernel
theorem dX12_digest_28 : decode cX12_digest 28 = .ok (.aload_n 0, 1) := by decide +kernel
theorem dX12_digest_29 : decode cX12_digest 29 = .ok (.getfield 95, 3) := by decide +kernel
theorem dX12_digest_32 : decode cX12_digest 32 = .ok (.if_icmp .ge 79, 3) := by decide +kernel
theorem dX12_digest_35 : decode cX12_digest 35 = .ok (.lload_n 1, 1) := by decide +kernel
theorem dX12_digest_36 : decode cX12_digest 36 = .ok (.ldc2_w 259, 3) := by decide +kernel
theorem dX12_digest_39 : decode cX12_digest 39 = .ok (.lmul, 1) := by decide +kernel
theorem dX12_digest_40 : decode cX12_digest 40 = .ok (.aload_n 0, 1) := by decide +kernel
theorem dX12_digest_41 : decode cX12_digest 41 = .ok (.getfield 13, 3) := by decide +kernel
theorem dX12_digest_44 : decode cX12_digest 44 = .ok (.iload_n 3, 1) := by decide +kernel
theorem dX12_digest_45 : decode cX12_digest 45 = .ok (.iaload, 1) := by decide +kernel
theorem dX12_digest_46 : decode cX12_digest 46 = .ok (.i2l, 1) := by decide +kernel
theorem dX12_digest_47 : decode cX12_digest 47 = .ok (.ladd, 1) := by decide +kernel
theorem dX12_digest_48 : decode cX12_digest 48 = .ok (.ldc2_w 259, 3) := by decide +kernel
theorem dX12_digest_51 : decode cX12_digest 51 = .ok (.lmul, 1) := by decide +kernel
theorem dX12_digest_52 : decode cX12_digest 52 = .ok (.aload_n 0, 1) := by decide +kernel
theorem dX12_digest_53 : decode cX12_digest 53 = .ok (.getfield 16, 3) := by decide +kernel
theorem dX12_digest_56 : decode cX12_digest 56 = .ok (.iload_n 3, 1) := by decide +kernel
theorem dX12_digest_57 : decode cX12_digest 57 = .ok (.iaload, 1) := by decide +kernel
theorem dX12_digest_58 : decode cX12_digest 58 = .ok (.i2l, 1) := by decide +kernel
theorem dX12_digest_59 : decode cX12_digest 59 = .ok (.ladd, 1) := by decide +kernel
theorem dX12_digest_60 : decode cX12_digest 60 = .ok (.ldc2_w 259, 3) := by decide +kernel
theorem dX12_digest_63 : decode cX12_digest 63 = .ok (.lmul, 1) := by decide +kernel
theorem dX12_digest_64 : decode cX12_digest 64 = .ok (.aload_n 0, 1) := by decide +kernel
theorem dX12_digest_65 : decode cX12_digest 65 = .ok (.getfield 21, 3) := by decide +kernel
theorem dX12_digest_68 : decode cX12_digest 68 = .ok (.iload_n 3, 1) := by decide +kernel
theorem dX12_digest_69 : decode cX12_digest 69 = .ok (.aaload, 1) := by decide +kernel
theorem dX12_digest_70 : decode cX12_digest 70 = .ok (.iconst 0, 1) := by decide +kernel
theorem dX12_digest_71 : decode cX12_digest 71 = .ok (.aload_n 0, 1) := by decide +kernel
theorem dX12_digest_72 : decode cX12_digest 72 = .ok (.getfield 16, 3) := by decide +kernel
theorem dX12_digest_75 : decode cX12_digest 75 = .ok (.iload_n 3, 1) := by decide +kernel
theorem dX12_digest_76 : decode cX12_digest 76 = .ok (.iaload, 1) := by decide +kernel
theorem dX12_digest_77 : decode cX12_digest 77 = .ok (.invokestatic 122, 3) := by decide +kernel
theorem dX12_digest_80 : decode cX12_digest 80 = .ok (.i2l, 1) := by decide +kernel
theorem dX12_digest_81 : decode cX12_digest 81 = .ok (.ladd, 1) := by decide +kernel
theorem dX12_digest_82 : decode cX12_digest 82 = .ok (.ldc2_w 259, 3) := by decide +kernel
theorem dX12_digest_85 : decode cX12_digest 85 = .ok (.lmul, 1) := by decide +kernel
theorem dX12_digest_86 : decode cX12_digest 86 = .ok (.aload_n 0, 1) := by decide +kernel
theorem dX12_digest_87 : decode cX12_digest 87 = .ok (.aload_n 0, 1) := by decide +kernel
theorem dX12_digest_88 : decode cX12_digest 88 = .ok (.getfield 21, 3) := by decide +kernel
theorem dX12_digest_91 : decode cX12_digest 91 = .ok (.iload_n 3, 1) := by decide +kernel
theorem dX12_digest_92 : decode cX12_digest 92 = .ok (.aaload, 1) := by decide +kernel
theorem dX12_digest_93 : decode cX12_digest 93 = .ok (.aload_n 0, 1) := by decide +kernel
theorem dX12_digest_94 : decode cX12_digest 94 = .ok (.getfield 16, 3) := by decide +kernel
theorem dX12_digest_97 : decode cX12_digest 97 = .ok (.iload_n 3, 1) := by decide +kernel
theorem dX12_digest_98 : decode cX12_digest 98 = .ok (.iaload, 1) := by decide +kernel
theorem dX12_digest_99 : decode cX12_digest 99 = .ok (.invokevirtual 126, 3) := by decide +kernel
theorem dX12_digest_102 : decode cX12_digest 102 = .ok (.i2l, 1) := by decide +kernel
theorem dX12_digest_103 : decode cX12_digest 103 = .ok (.ladd, 1) := by decide +kernel
theorem dX12_digest_104 : decode cX12_digest 104 = .ok (.lstore_n 1, 1) := by decide +kernel
theorem dX12_digest_105 : decode cX12_digest 105 = .ok (.iinc 3 1, 3) := by decide +kernel
theorem dX12_digest_108 : decode cX12_digest 108 = .ok (.goto (-81), 3) := by decide +kernel
theorem dX12_digest_111 : decode cX12_digest 111 = .ok (.aload_n 0, 1) := by decide +kernel
theorem dX12_digest_112 : decode cX12_digest 112 = .ok (.invokevirtual 193, 3) := by decide +kernel
theorem dX12_digest_115 : decode cX12_digest 115 = .ok (.iconst 0, 1) := by decide +kernel
theorem dX12_digest_116 : decode cX12_digest 116 = .ok (.istore_n 3, 1) := by decide +kernel
theorem dX12_digest_117 : decode cX12_digest 117 = .ok (.iload_n 3, 1) := by decide +kernel
theorem dX12_digest_118 : decode cX12_digest 118 = .ok (.bipush 16, 2) := by decide +kernel
theorem dX12_digest_120 : decode cX12_digest 120 = .ok (.if_icmp .ge 92, 3) := by decide +kernel
theorem dX12_digest_123 : decode cX12_digest 123 = .ok (.lload_n 1, 1) := by decide +kernel
theorem dX12_digest_124 : decode cX12_digest 124 = .ok (.ldc2_w 259, 3) := by decide +kernel
theorem dX12_digest_127 : decode cX12_digest 127 = .ok (.lmul, 1) := by decide +kernel
theorem dX12_digest_128 : decode cX12_digest 128 = .ok (.aload_n 0, 1) := by decide +kernel
theorem dX12_digest_129 : decode cX12_digest 129 = .ok (.getfield 28, 3) := by decide +kernel
theorem dX12_digest_132 : decode cX12_digest 132 = .ok (.iload_n 3, 1) := by decide +kernel
theorem dX12_digest_133 : decode cX12_digest 133 = .ok (.iaload, 1) := by decide +kernel
theorem dX12_digest_134 : decode cX12_digest 134 = .ok (.i2l, 1) := by decide +kernel
theorem dX12_digest_135 : decode cX12_digest 135 = .ok (.ladd, 1) := by decide +kernel
theorem dX12_digest_136 : decode cX12_digest 136 = .ok (.ldc2_w 259, 3) := by decide +kernel
theorem dX12_digest_139 : decode cX12_digest 139 = .ok (.lmul, 1) := by decide +kernel
theorem dX12_digest_140 : decode cX12_digest 140 = .ok (.aload_n 0, 1) := by decide +kernel
theorem dX12_digest_141 : decode cX12_digest 141 = .ok (.getfield 52, 3) := by decide +kernel
theorem dX12_digest_144 : decode cX12_digest 144 = .ok (.iload_n 3, 1) := by decide +kernel
theorem dX12_digest_145 : decode cX12_digest 145 = .ok (.baload, 1) := by decide +kernel
theorem dX12_digest_146 : decode cX12_digest 146 = .ok (.ifCond .eq 7, 3) := by decide +kernel
theorem dX12_digest_149 : decode cX12_digest 149 = .ok (.iconst 1, 1) := by decide +kernel
theorem dX12_digest_150 : decode cX12_digest 150 = .ok (.goto 4, 3) := by decide +kernel
theorem dX12_digest_153 : decode cX12_digest 153 = .ok (.iconst 0, 1) := by decide +kernel
theorem dX12_digest_154 : decode cX12_digest 154 = .ok (.i2l, 1) := by decide +kernel
theorem dX12_digest_155 : decode cX12_digest 155 = .ok (.ladd, 1) := by decide +kernel
theorem dX12_digest_156 : decode cX12_digest 156 = .ok (.ldc2_w 259, 3) := by decide +kernel
theorem dX12_digest_159 : decode cX12_digest 159 = .ok (.lmul, 1) := by decide +kernel
theorem dX12_digest_160 : decode cX12_digest 160 = .ok (.aload_n 0, 1) := by decide +kernel
theorem dX12_digest_161 : decode cX12_digest 161 = .ok (.getfield 56, 3) := by decide +kernel
theorem dX12_digest_164 : decode cX12_digest 164 = .ok (.iload_n 3, 1) := by decide +kernel
theorem dX12_digest_165 : decode cX12_digest 165 = .ok (.iaload, 1) := by decide +kernel
theorem dX12_digest_166 : decode cX12_digest 166 = .ok (.i2l, 1) := by decide +kernel
theorem dX12_digest_167 : decode cX12_digest 167 = .ok (.ladd, 1) := by decide +kernel
theorem dX12_digest_168 : decode cX12_digest 168 = .ok (.lstore_n 1, 1) := by decide +kernel
theorem dX12_digest_169 : decode cX12_digest 169 = .ok (.iconst 0, 1) := by decide +kernel
theorem dX12_digest_170 : decode cX12_digest 170 = .ok (.istore 4, 2) := by decide +kernel
theorem dX12_digest_172 : decode cX12_digest 172 = .ok (.iload 4, 2) := by decide +kernel
theorem dX12_digest_174 : decode cX12_digest 174 = .ok (.aload_n 0, 1) := by decide +kernel
theorem dX12_digest_175 : decode cX12_digest 175 = .ok (.getfield 28, 3) := by decide +kernel
theorem dX12_digest_178 : decode cX12_digest 178 = .ok (.iload_n 3, 1) := by decide +kernel
theorem dX12_digest_179 : decode cX12_digest 179 = .ok (.iaload, 1) := by decide +kernel
theorem dX12_digest_180 : decode cX12_digest 180 = .ok (.if_icmp .ge 26, 3) := by decide +kernel
theorem dX12_digest_183 : decode cX12_digest 183 = .ok (.lload_n 1, 1) := by decide +kernel
theorem dX12_digest_184 : decode cX12_digest 184 = .ok (.ldc2_w 259, 3) := by decide +kernel
theorem dX12_digest_187 : decode cX12_digest 187 = .ok (.lmul, 1) := by decide +kernel
theorem dX12_digest_188 : decode cX12_digest 188 = .ok (.aload_n 0, 1) := by decide +kernel
theorem dX12_digest_189 : decode cX12_digest 189 = .ok (.getfield 25, 3) := by decide +kernel
theorem dX12_digest_192 : decode cX12_digest 192 = .ok (.iload_n 3, 1) := by decide +kernel
theorem dX12_digest_193 : decode cX12_digest 193 = .ok (.aaload, 1) := by decide +kernel
theorem dX12_digest_194 : decode cX12_digest 194 = .ok (.iload 4, 2) := by decide +kernel
theorem dX12_digest_196 : decode cX12_digest 196 = .ok (.iaload, 1) := by decide +kernel
theorem dX12_digest_197 : decode cX12_digest 197 = .ok (.i2l, 1) := by decide +kernel
theorem dX12_digest_198 : decode cX12_digest 198 = .ok (.ladd, 1) := by decide +kernel
theorem dX12_digest_199 : decode cX12_digest 199 = .ok (.lstore_n 1, 1) := by decide +kernel
theorem dX12_digest_200 : decode cX12_digest 200 = .ok (.iinc 4 1, 3) := by decide +kernel
theorem dX12_digest_203 : decode cX12_digest 203 = .ok (.goto (-31), 3) := by decide +kernel
theorem dX12_digest_206 : decode cX12_digest 206 = .ok (.iinc 3 1, 3) := by decide +kernel
theorem dX12_digest_209 : decode cX12_digest 209 = .ok (.goto (-92), 3) := by decide +kernel
theorem dX12_digest_212 : decode cX12_digest 212 = .ok (.lload_n 1, 1) := by decide +kernel
theorem dX12_digest_213 : decode cX12_digest 213 = .ok (.ldc2_w 259, 3) := by decide +kernel
theorem dX12_digest_216 : decode cX12_digest 216 = .ok (.lmul, 1) := by decide +kernel
theorem dX12_digest_217 : decode cX12_digest 217 = .ok (.aload_n 0, 1) := by decide +kernel
theorem dX12_digest_218 : decode cX12_digest 218 = .ok (.getfield 184, 3) := by decide +kernel
theorem dX12_digest_221 : decode cX12_digest 221 = .ok (.i2l, 1) := by decide +kernel
theorem dX12_digest_222 : decode cX12_digest 222 = .ok (.ladd, 1) := by decide +kernel
theorem dX12_digest_223 : decode cX12_digest 223 = .ok (.ldc2_w 259, 3) := by decide +kernel
theorem dX12_digest_226 : decode cX12_digest 226 = .ok (.lmul, 1) := by decide +kernel
theorem dX12_digest_227 : decode cX12_digest 227 = .ok (.aload_n 0, 1) := by decide +kernel
theorem dX12_digest_228 : decode cX12_digest 228 = .ok (.getfield 187, 3) := by decide +kernel
theorem dX12_digest_231 : decode cX12_digest 231 = .ok (.i2l, 1) := by decide +kernel
theorem dX12_digest_232 : decode cX12_digest 232 = .ok (.ladd, 1) := by decide +kernel
theorem dX12_digest_233 : decode cX12_digest 233 = .ok (.ldc2_w 259, 3) := by decide +kernel
theorem dX12_digest_236 : decode cX12_digest 236 = .ok (.lmul, 1) := by decide +kernel
theorem dX12_digest_237 : decode cX12_digest 237 = .ok (.aload_n 0, 1) := by decide +kernel
theorem dX12_digest_238 : decode cX12_digest 238 = .ok (.invokevirtual 196, 3) := by decide +kernel
theorem dX12_digest_241 : decode cX12_digest 241 = .ok (.i2l, 1) := by decide +kernel
theorem dX12_digest_242 : decode cX12_digest 242 = .ok (.ladd, 1) := by decide +kernel
theorem dX12_digest_243 : decode cX12_digest 243 = .ok (.ldc2_w 259, 3) := by decide +kernel
theorem dX12_digest_246 : decode cX12_digest 246 = .ok (.lmul, 1) := by decide +kernel
theorem dX12_digest_247 : decode cX12_digest 247 = .ok (.aload_n 0, 1) := by decide +kernel
theorem dX12_digest_248 : decode cX12_digest 248 = .ok (.getfield 164, 3) := by decide +kernel
theorem dX12_digest_251 : decode cX12_digest 251 = .ok (.ifCond .eq 7, 3) := by decide +kernel
theorem dX12_digest_254 : decode cX12_digest 254 = .ok (.iconst 1, 1) := by decide +kernel
theorem dX12_digest_255 : decode cX12_digest 255 = .ok (.goto 4, 3) := by decide +kernel
theorem dX12_digest_258 : decode cX12_digest 258 = .ok (.iconst 0, 1) := by decide +kernel
theorem dX12_digest_259 : decode cX12_digest 259 = .ok (.i2l, 1) := by decide +kernel
theorem dX12_digest_260 : decode cX12_digest 260 = .ok (.ladd, 1) := by decide +kernel
theorem dX12_digest_261 : decode cX12_digest 261 = .ok (.lstore_n 1, 1) := by decide +kernel
theorem dX12_digest_262 : decode cX12_digest 262 = .ok (.aload_n 0, 1) := by decide +kernel
theorem dX12_digest_263 : decode cX12_digest 263 = .ok (.getfield 164, 3) := by decide +kernel
theorem dX12_digest_266 : decode cX12_digest 266 = .ok (.ifCond .ne 5, 3) := by decide +kernel
theorem dX12_digest_269 : decode cX12_digest 269 = .ok (.lload_n 1, 1) := by decide +kernel
theorem dX12_digest_270 : decode cX12_digest 270 = .ok (.lreturn, 1) := by decide +kernel
theorem dX12_digest_271 : decode cX12_digest 271 = .ok (.lload_n 1, 1) := by decide +kernel
theorem dX12_digest_272 : decode cX12_digest 272 = .ok (.ldc2_w 259, 3) := by decide +kernel
theorem dX12_digest_275 : decode cX12_digest 275 = .ok (.lmul, 1) := by decide +kernel
theorem dX12_digest_276 : decode cX12_digest 276 = .ok (.aload_n 0, 1) := by decide +kernel
theorem dX12_digest_277 : decode cX12_digest 277 = .ok (.getfield 31, 3) := by decide +kernel
theorem dX12_digest_280 : decode cX12_digest 280 = .ok (.arraylength, 1) := by decide +kernel
theorem dX12_digest_281 : decode cX12_digest 281 = .ok (.i2l, 1) := by decide +kernel
theorem dX12_digest_282 : decode cX12_digest 282 = .ok (.ladd, 1) := by decide +kernel
theorem dX12_digest_283 : decode cX12_digest 283 = .ok (.ldc2_w 259, 3) := by decide +kernel
theorem dX12_digest_286 : decode cX12_digest 286 = .ok (.lmul, 1) := by decide +kernel
theorem dX12_digest_287 : decode cX12_digest 287 = .ok (.aload_n 0, 1) := by decide +kernel
theorem dX12_digest_288 : decode cX12_digest 288 = .ok (.getfield 230, 3) := by decide +kernel
theorem dX12_digest_291 : decode cX12_digest 291 = .ok (.ifCond .eq 7, 3) := by decide +kernel
theorem dX12_digest_294 : decode cX12_digest 294 = .ok (.iconst 1, 1) := by decide +kernel
theorem dX12_digest_295 : decode cX12_digest 295 = .ok (.goto 4, 3) := by decide +kernel
theorem dX12_digest_298 : decode cX12_digest 298 = .ok (.iconst 0, 1) := by decide +kernel
theorem dX12_digest_299 : decode cX12_digest 299 = .ok (.i2l, 1) := by decide +kernel
theorem dX12_digest_300 : decode cX12_digest 300 = .ok (.ladd, 1) := by decide +kernel
theorem dX12_digest_301 : decode cX12_digest 301 = .ok (.ldc2_w 259, 3) := by decide +kernel
theorem dX12_digest_304 : decode cX12_digest 304 = .ok (.lmul, 1) := by decide +kernel
theorem dX12_digest_305 : decode cX12_digest 305 = .ok (.aload_n 0, 1) := by decide +kernel
theorem dX12_digest_306 : decode cX12_digest 306 = .ok (.getfield 233, 3) := by decide +kernel
theorem dX12_digest_309 : decode cX12_digest 309 = .ok (.i2l, 1) := by decide +kernel
theorem dX12_digest_310 : decode cX12_digest 310 = .ok (.ladd, 1) := by decide +kernel
theorem dX12_digest_311 : decode cX12_digest 311 = .ok (.lstore_n 1, 1) := by decide +kernel
theorem dX12_digest_312 : decode cX12_digest 312 = .ok (.iconst 0, 1) := by decide +kernel
theorem dX12_digest_313 : decode cX12_digest 313 = .ok (.istore_n 3, 1) := by decide +kernel
theorem dX12_digest_314 : decode cX12_digest 314 = .ok (.iload_n 3, 1) := by decide +kernel
theorem dX12_digest_315 : decode cX12_digest 315 = .ok (.aload_n 0, 1) := by decide +kernel
theorem dX12_digest_316 : decode cX12_digest 316 = .ok (.getfield 233, 3) := by decide +kernel
theorem dX12_digest_319 : decode cX12_digest 319 = .ok (.if_icmp .ge 68, 3) := by decide +kernel
theorem dX12_digest_322 : decode cX12_digest 322 = .ok (.lload_n 1, 1) := by decide +kernel
theorem dX12_digest_323 : decode cX12_digest 323 = .ok (.ldc2_w 259, 3) := by decide +kernel
theorem dX12_digest_326 : decode cX12_digest 326 = .ok (.lmul, 1) := by decide +kernel
theorem dX12_digest_327 : decode cX12_digest 327 = .ok (.aload_n 0, 1) := by decide +kernel
theorem dX12_digest_328 : decode cX12_digest 328 = .ok (.getfield 34, 3) := by decide +kernel
theorem dX12_digest_331 : decode cX12_digest 331 = .ok (.iload_n 3, 1) := by decide +kernel
theorem dX12_digest_332 : decode cX12_digest 332 = .ok (.iaload, 1) := by decide +kernel
theorem dX12_digest_333 : decode cX12_digest 333 = .ok (.i2l, 1) := by decide +kernel
theorem dX12_digest_334 : decode cX12_digest 334 = .ok (.ladd, 1) := by decide +kernel
theorem dX12_digest_335 : decode cX12_digest 335 = .ok (.ldc2_w 259, 3) := by decide +kernel
theorem dX12_digest_338 : decode cX12_digest 338 = .ok (.lmul, 1) := by decide +kernel
theorem dX12_digest_339 : decode cX12_digest 339 = .ok (.aload_n 0, 1) := by decide +kernel
theorem dX12_digest_340 : decode cX12_digest 340 = .ok (.getfield 37, 3) := by decide +kernel
theorem dX12_digest_343 : decode cX12_digest 343 = .ok (.iload_n 3, 1) := by decide +kernel
theorem dX12_digest_344 : decode cX12_digest 344 = .ok (.iaload, 1) := by decide +kernel
theorem dX12_digest_345 : decode cX12_digest 345 = .ok (.i2l, 1) := by decide +kernel
theorem dX12_digest_346 : decode cX12_digest 346 = .ok (.ladd, 1) := by decide +kernel
theorem dX12_digest_347 : decode cX12_digest 347 = .ok (.ldc2_w 259, 3) := by decide +kernel
theorem dX12_digest_350 : decode cX12_digest 350 = .ok (.lmul, 1) := by decide +kernel
theorem dX12_digest_351 : decode cX12_digest 351 = .ok (.aload_n 0, 1) := by decide +kernel
theorem dX12_digest_352 : decode cX12_digest 352 = .ok (.getfield 43, 3) := by decide +kernel
theorem dX12_digest_355 : decode cX12_digest 355 = .ok (.iload_n 3, 1) := by decide +kernel
theorem dX12_digest_356 : decode cX12_digest 356 = .ok (.iaload, 1) := by decide +kernel
theorem dX12_digest_357 : decode cX12_digest 357 = .ok (.iconst (-1), 1) := by decide +kernel
theorem dX12_digest_358 : decode cX12_digest 358 = .ok (.if_icmp .ne 7, 3) := by decide +kernel
theorem dX12_digest_361 : decode cX12_digest 361 = .ok (.iconst 0, 1) := by decide +kernel
theorem dX12_digest_362 : decode cX12_digest 362 = .ok (.goto 4, 3) := by decide +kernel
theorem dX12_digest_365 : decode cX12_digest 365 = .ok (.iconst 1, 1) := by decide +kernel
theorem dX12_digest_366 : decode cX12_digest 366 = .ok (.i2l, 1) := by decide +kernel
theorem dX12_digest_367 : decode cX12_digest 367 = .ok (.ladd, 1) := by decide +kernel
theorem dX12_digest_368 : decode cX12_digest 368 = .ok (.ldc2_w 259, 3) := by decide +kernel
theorem dX12_digest_371 : decode cX12_digest 371 = .ok (.lmul, 1) := by decide +kernel
theorem dX12_digest_372 : decode cX12_digest 372 = .ok (.aload_n 0, 1) := by decide +kernel
theorem dX12_digest_373 : decode cX12_digest 373 = .ok (.getfield 43, 3) := by decide +kernel
theorem dX12_digest_376 : decode cX12_digest 376 = .ok (.iload_n 3, 1) := by decide +kernel
theorem dX12_digest_377 : decode cX12_digest 377 = .ok (.iaload, 1) := by decide +kernel
theorem dX12_digest_378 : decode cX12_digest 378 = .ok (.i2l, 1) := by decide +kernel
theorem dX12_digest_379 : decode cX12_digest 379 = .ok (.ladd, 1) := by decide +kernel
theorem dX12_digest_380 : decode cX12_digest 380 = .ok (.lstore_n 1, 1) := by decide +kernel
theorem dX12_digest_381 : decode cX12_digest 381 = .ok (.iinc 3 1, 3) := by decide +kernel
theorem dX12_digest_384 : decode cX12_digest 384 = .ok (.goto (-70), 3) := by decide +kernel
theorem dX12_digest_387 : decode cX12_digest 387 = .ok (.lload_n 1, 1) := by decide +kernel
theorem dX12_digest_388 : decode cX12_digest 388 = .ok (.lreturn, 1) := by decide +kernel

