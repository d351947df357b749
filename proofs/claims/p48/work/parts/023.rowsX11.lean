set_option maxRecDepth 20000 in
theorem ggX11_init_X1_init : GoodIn wsX11_init wsX1_init := goodIn_r _ [29, 30, 2, 3, 31, 32, 33, 34, 6, 35, 36, 117] (by decide +kernel) (by decide +kernel)
set_option maxRecDepth 20000 in
theorem gX11_init_X1_init : GoodIn wsX11_init (wsX1_init) := ggX11_init_X1_init
set_option maxRecDepth 20000 in
theorem ggX11_init_X4_init : GoodIn wsX11_init wsX4_init := goodIn_r _ [39, 40, 2, 3, 31, 41, 42, 118, 119] (by decide +kernel) (by decide +kernel)
set_option maxRecDepth 20000 in
theorem gX11_init_X4_init : GoodIn wsX11_init (wsX4_init) := ggX11_init_X4_init
set_option maxRecDepth 20000 in
theorem ggX11_init_X2_init : GoodIn wsX11_init wsX2_init := goodIn_r _ [45, 46, 2, 3, 47, 48, 49, 50, 51, 52, 53, 54, 55, 56, 57, 58, 59, 60, 31, 61, 62, 63, 64, 65, 66, 67, 68, 148, 149, 125, 126, 127, 128, 129, 150, 151, 152, 153] (by decide +kernel) (by decide +kernel)
set_option maxRecDepth 20000 in
theorem gX11_init_X2_init : GoodIn wsX11_init (wsX2_init) := ggX11_init_X2_init
set_option maxRecDepth 20000 in
theorem ggX11_init_X9_init : GoodIn wsX11_init wsX9_init := goodIn_r _ [71, 72, 2, 3, 73, 74, 31, 75, 76, 77, 78, 79, 80, 81, 82, 83, 84, 85, 48, 49, 86, 87, 88, 58, 59, 60, 61, 130, 131, 132, 133, 134, 135, 136, 154, 155, 156, 157, 148, 149] (by decide +kernel) (by decide +kernel)
set_option maxRecDepth 20000 in
theorem gX11_init_X9_init : GoodIn wsX11_init (wsX9_init) := ggX11_init_X9_init
set_option maxRecDepth 20000 in
theorem ggX11_init_X8_init : GoodIn wsX11_init wsX8_init := goodIn_r _ [91, 92, 2, 3, 93, 48, 49, 94, 31, 95, 96, 97, 58, 59, 60, 61, 148, 149, 137, 138, 139] (by decide +kernel) (by decide +kernel)
set_option maxRecDepth 20000 in
theorem gX11_init_X8_init : GoodIn wsX11_init (wsX8_init) := ggX11_init_X8_init
set_option maxRecDepth 20000 in
theorem ggX11_init_X7_init : GoodIn wsX11_init wsX7_init := goodIn_r _ [100, 101, 2, 3, 102, 48, 49, 103, 104, 105, 106, 107, 108, 109, 110, 58, 59, 60, 31, 61, 111, 112, 113, 114, 115, 116, 148, 149, 140, 141, 142, 143, 144, 145, 146, 147, 158, 159, 160, 161, 162] (by decide +kernel) (by decide +kernel)
set_option maxRecDepth 20000 in
theorem gX11_init_X7_init : GoodIn wsX11_init (wsX7_init) := ggX11_init_X7_init
theorem dX11_init_0 : decode cX11_init 0 = .ok (.aload_n 0, 1) := by decide +kernel
theorem dX11_init_1 : decode cX11_init 1 = .ok (.invokespecial 3, 3) := by decide +kernel
theorem dX11_init_4 : decode cX11_init 4 = .ok (.new 9, 3) := by decide +kernel
theorem dX11_init_7 : decode cX11_init 7 = .ok (.dup, 1) := by decide +kernel
theorem dX11_init_8 : decode cX11_init 8 = .ok (.invokespecial 11, 3) := by decide +kernel
theorem dX11_init_11 : decode cX11_init 11 = .ok (.astore_n 1, 1) := by decide +kernel
theorem dX11_init_12 : decode cX11_init 12 = .ok (.aload_n 0, 1) := by decide +kernel
theorem dX11_init_13 : decode cX11_init 13 = .ok (.new 12, 3) := by decide +kernel
theorem dX11_init_16 : decode cX11_init 16 = .ok (.dup, 1) := by decide +kernel
theorem dX11_init_17 : decode cX11_init 17 = .ok (.invokespecial 14, 3) := by decide +kernel
theorem dX11_init_20 : decode cX11_init 20 = .ok (.putfield 15, 3) := by decide +kernel
theorem dX11_init_23 : decode cX11_init 23 = .ok (.aload_n 0, 1) := by decide +kernel
theorem dX11_init_24 : decode cX11_init 24 = .ok (.new 19, 3) := by decide +kernel
theorem dX11_init_27 : decode cX11_init 27 = .ok (.dup, 1) := by decide +kernel
theorem dX11_init_28 : decode cX11_init 28 = .ok (.aload_n 1, 1) := by decide +kernel
theorem dX11_init_29 : decode cX11_init 29 = .ok (.invokespecial 21, 3) := by decide +kernel
theorem dX11_init_32 : decode cX11_init 32 = .ok (.putfield 24, 3) := by decide +kernel
theorem dX11_init_35 : decode cX11_init 35 = .ok (.aload_n 0, 1) := by decide +kernel
theorem dX11_init_36 : decode cX11_init 36 = .ok (.new 28, 3) := by decide +kernel
theorem dX11_init_39 : decode cX11_init 39 = .ok (.dup, 1) := by decide +kernel
theorem dX11_init_40 : decode cX11_init 40 = .ok (.aload_n 1, 1) := by decide +kernel
theorem dX11_init_41 : decode cX11_init 41 = .ok (.aload_n 0, 1) := by decide +kernel
theorem dX11_init_42 : decode cX11_init 42 = .ok (.getfield 15, 3) := by decide +kernel
theorem dX11_init_45 : decode cX11_init 45 = .ok (.invokespecial 30, 3) := by decide +kernel
theorem dX11_init_48 : decode cX11_init 48 = .ok (.putfield 33, 3) := by decide +kernel
theorem dX11_init_51 : decode cX11_init 51 = .ok (.aload_n 0, 1) := by decide +kernel
theorem dX11_init_52 : decode cX11_init 52 = .ok (.new 37, 3) := by decide +kernel
theorem dX11_init_55 : decode cX11_init 55 = .ok (.dup, 1) := by decide +kernel
theorem dX11_init_56 : decode cX11_init 56 = .ok (.aload_n 0, 1) := by decide +kernel
theorem dX11_init_57 : decode cX11_init 57 = .ok (.getfield 15, 3) := by decide +kernel
theorem dX11_init_60 : decode cX11_init 60 = .ok (.invokespecial 39, 3) := by decide +kernel
theorem dX11_init_63 : decode cX11_init 63 = .ok (.putfield 42, 3) := by decide +kernel
theorem dX11_init_66 : decode cX11_init 66 = .ok (.aload_n 0, 1) := by decide +kernel
theorem dX11_init_67 : decode cX11_init 67 = .ok (.new 46, 3) := by decide +kernel
theorem dX11_init_70 : decode cX11_init 70 = .ok (.dup, 1) := by decide +kernel
theorem dX11_init_71 : decode cX11_init 71 = .ok (.aload_n 1, 1) := by decide +kernel
theorem dX11_init_72 : decode cX11_init 72 = .ok (.invokespecial 48, 3) := by decide +kernel
theorem dX11_init_75 : decode cX11_init 75 = .ok (.putfield 49, 3) := by decide +kernel
theorem dX11_init_78 : decode cX11_init 78 = .ok (.return_, 1) := by decide +kernel
set_option maxRecDepth 20000 in
theorem ggX11_write_X11_isByte : GoodIn wsX11_write wsX11_isByte := goodIn_r _ [9] (by decide +kernel) (by decide +kernel)
set_option maxRecDepth 20000 in
theorem gX11_write_X11_isByte : GoodIn wsX11_write (va_wsS RX11 53 yX11_isByte wsX11_isByte) := goodIn_app (goodIn_of _ (by decide +kernel)) ggX11_write_X11_isByte
set_option maxRecDepth 20000 in
theorem ggX11_write_X0_size : GoodIn wsX11_write wsX0_size := goodIn_r _ [14, 15, 35, 36] (by decide +kernel) (by decide +kernel)
set_option maxRecDepth 20000 in
theorem gX11_write_X0_size : GoodIn wsX11_write (wsV RX11 93 RX0 yX0_size wsX0_size) := goodIn_app (goodIn_of _ (by decide +kernel)) ggX11_write_X0_size
set_option maxRecDepth 20000 in
theorem ggX11_write_X0_addTimes : GoodIn wsX11_write wsX0_addTimes := goodIn_r _ [19, 20, 21, 22, 13, 23, 15, 24, 35, 36] (by decide +kernel) (by decide +kernel)
set_option maxRecDepth 20000 in
theorem gX11_write_X0_addTimes : GoodIn wsX11_write (wsV RX11 104 RX0 yX0_addTimes wsX0_addTimes) := goodIn_app (goodIn_of _ (by decide +kernel)) ggX11_write_X0_addTimes
theorem dX11_write_0 : decode cX11_write 0 = .ok (.iload_n 1, 1) := by decide +kernel
theorem dX11_write_1 : decode cX11_write 1 = .ok (.invokestatic 53, 3) := by decide +kernel
theorem dX11_write_4 : decode cX11_write 4 = .ok (.ifCond .eq 15, 3) := by decide +kernel
theorem dX11_write_7 : decode cX11_write 7 = .ok (.iload_n 2, 1) := by decide +kernel
theorem dX11_write_8 : decode cX11_write 8 = .ok (.iconst 1, 1) := by decide +kernel
theorem dX11_write_9 : decode cX11_write 9 = .ok (.if_icmp .lt 10, 3) := by decide +kernel
theorem dX11_write_12 : decode cX11_write 12 = .ok (.iload_n 2, 1) := by decide +kernel
theorem dX11_write_13 : decode cX11_write 13 = .ok (.sipush 200, 3) := by decide +kernel
theorem dX11_write_16 : decode cX11_write 16 = .ok (.if_icmp .le 13, 3) := by decide +kernel
theorem dX11_write_19 : decode cX11_write 19 = .ok (.new 57, 3) := by decide +kernel
theorem dX11_write_22 : decode cX11_write 22 = .ok (.dup, 1) := by decide +kernel
theorem dX11_write_23 : decode cX11_write 23 = .ok (.ldc 87, 2) := by decide +kernel
theorem dX11_write_25 : decode cX11_write 25 = .ok (.invokespecial 61, 3) := by decide +kernel
theorem dX11_write_28 : decode cX11_write 28 = .ok (.athrow, 1) := by decide +kernel
theorem dX11_write_29 : decode cX11_write 29 = .ok (.aload_n 0, 1) := by decide +kernel
theorem dX11_write_30 : decode cX11_write 30 = .ok (.getfield 24, 3) := by decide +kernel
theorem dX11_write_33 : decode cX11_write 33 = .ok (.getfield 89, 3) := by decide +kernel
theorem dX11_write_36 : decode cX11_write 36 = .ok (.invokevirtual 93, 3) := by decide +kernel
theorem dX11_write_39 : decode cX11_write 39 = .ok (.iload_n 2, 1) := by decide +kernel
theorem dX11_write_40 : decode cX11_write 40 = .ok (.iadd, 1) := by decide +kernel
theorem dX11_write_41 : decode cX11_write 41 = .ok (.sipush 240, 3) := by decide +kernel
theorem dX11_write_44 : decode cX11_write 44 = .ok (.if_icmp .le 13, 3) := by decide +kernel
theorem dX11_write_47 : decode cX11_write 47 = .ok (.new 99, 3) := by decide +kernel
theorem dX11_write_50 : decode cX11_write 50 = .ok (.dup, 1) := by decide +kernel
theorem dX11_write_51 : decode cX11_write 51 = .ok (.ldc 101, 2) := by decide +kernel
theorem dX11_write_53 : decode cX11_write 53 = .ok (.invokespecial 103, 3) := by decide +kernel
theorem dX11_write_56 : decode cX11_write 56 = .ok (.athrow, 1) := by decide +kernel
theorem dX11_write_57 : decode cX11_write 57 = .ok (.aload_n 0, 1) := by decide +kernel
theorem dX11_write_58 : decode cX11_write 58 = .ok (.getfield 24, 3) := by decide +kernel
theorem dX11_write_61 : decode cX11_write 61 = .ok (.getfield 89, 3) := by decide +kernel
theorem dX11_write_64 : decode cX11_write 64 = .ok (.iload_n 1, 1) := by decide +kernel
theorem dX11_write_65 : decode cX11_write 65 = .ok (.iload_n 2, 1) := by decide +kernel
theorem dX11_write_66 : decode cX11_write 66 = .ok (.invokevirtual 104, 3) := by decide +kernel
theorem dX11_write_69 : decode cX11_write 69 = .ok (.aload_n 0, 1) := by decide +kernel
theorem dX11_write_70 : decode cX11_write 70 = .ok (.getfield 24, 3) := by decide +kernel
theorem dX11_write_73 : decode cX11_write 73 = .ok (.getfield 89, 3) := by decide +kernel
theorem dX11_write_76 : decode cX11_write 76 = .ok (.invokevirtual 93, 3) := by decide +kernel
theorem dX11_write_79 : decode cX11_write 79 = .ok (.ireturn, 1) := by decide +kernel
set_option maxRecDepth 20000 in
theorem ggX11_noise_X11_isWord : GoodIn wsX11_noise wsX11_isWord := goodIn_r _ [10, 11] (by decide +kernel) (by decide +kernel)
set_option maxRecDepth 20000 in
theorem gX11_noise_X11_isWord : GoodIn wsX11_noise (va_wsS RX11 108 yX11_isWord wsX11_isWord) := goodIn_app (goodIn_of _ (by decide +kernel)) ggX11_noise_X11_isWord
set_option maxRecDepth 20000 in
theorem ggX11_noise_X0_size : GoodIn wsX11_noise wsX0_size := goodIn_r _ [16, 17, 33, 34] (by decide +kernel) (by decide +kernel)
set_option maxRecDepth 20000 in
theorem gX11_noise_X0_size : GoodIn wsX11_noise (wsV RX11 93 RX0 yX0_size wsX0_size) := goodIn_app (goodIn_of _ (by decide +kernel)) ggX11_noise_X0_size
set_option maxRecDepth 20000 in
theorem ggX11_noise_X0_add : GoodIn wsX11_noise wsX0_add := goodIn_r _ [21, 17, 22, 33, 34] (by decide +kernel) (by decide +kernel)
set_option maxRecDepth 20000 in
theorem gX11_noise_X0_add : GoodIn wsX11_noise (wsV RX11 114 RX0 yX0_add wsX0_add) := goodIn_app (goodIn_of _ (by decide +kernel)) ggX11_noise_X0_add
theorem dX11_noise_0 : decode cX11_noise 0 = .ok (.iload_n 1, 1) := by decide +kernel
theorem dX11_noise_1 : decode cX11_noise 1 = .ok (.invokestatic 108, 3) := by decide +kernel
theorem dX11_noise_4 : decode cX11_noise 4 = .ok (.ifCond .eq 15, 3) := by decide +kernel
theorem dX11_noise_7 : decode cX11_noise 7 = .ok (.iload_n 2, 1) := by decide +kernel
theorem dX11_noise_8 : decode cX11_noise 8 = .ok (.iconst 1, 1) := by decide +kernel
theorem dX11_noise_9 : decode cX11_noise 9 = .ok (.if_icmp .lt 10, 3) := by decide +kernel
theorem dX11_noise_12 : decode cX11_noise 12 = .ok (.iload_n 2, 1) := by decide +kernel
theorem dX11_noise_13 : decode cX11_noise 13 = .ok (.sipush 240, 3) := by decide +kernel
theorem dX11_noise_16 : decode cX11_noise 16 = .ok (.if_icmp .le 13, 3) := by decide +kernel
theorem dX11_noise_19 : decode cX11_noise 19 = .ok (.new 57, 3) := by decide +kernel
theorem dX11_noise_22 : decode cX11_noise 22 = .ok (.dup, 1) := by decide +kernel
theorem dX11_noise_23 : decode cX11_noise 23 = .ok (.ldc 111, 2) := by decide +kernel
theorem dX11_noise_25 : decode cX11_noise 25 = .ok (.invokespecial 61, 3) := by decide +kernel
theorem dX11_noise_28 : decode cX11_noise 28 = .ok (.athrow, 1) := by decide +kernel
theorem dX11_noise_29 : decode cX11_noise 29 = .ok (.aload_n 0, 1) := by decide +kernel
theorem dX11_noise_30 : decode cX11_noise 30 = .ok (.getfield 24, 3) := by decide +kernel
theorem dX11_noise_33 : decode cX11_noise 33 = .ok (.getfield 89, 3) := by decide +kernel
theorem dX11_noise_36 : decode cX11_noise 36 = .ok (.invokevirtual 93, 3) := by decide +kernel
theorem dX11_noise_39 : decode cX11_noise 39 = .ok (.iload_n 2, 1) := by decide +kernel
theorem dX11_noise_40 : decode cX11_noise 40 = .ok (.iadd, 1) := by decide +kernel
theorem dX11_noise_41 : decode cX11_noise 41 = .ok (.sipush 240, 3) := by decide +kernel
theorem dX11_noise_44 : decode cX11_noise 44 = .ok (.if_icmp .le 13, 3) := by decide +kernel
theorem dX11_noise_47 : decode cX11_noise 47 = .ok (.new 99, 3) := by decide +kernel
theorem dX11_noise_50 : decode cX11_noise 50 = .ok (.dup, 1) := by decide +kernel
theorem dX11_noise_51 : decode cX11_noise 51 = .ok (.ldc 101, 2) := by decide +kernel
theorem dX11_noise_53 : decode cX11_noise 53 = .ok (.invokespecial 103, 3) := by decide +kernel
theorem dX11_noise_56 : decode cX11_noise 56 = .ok (.athrow, 1) := by decide +kernel
theorem dX11_noise_57 : decode cX11_noise 57 = .ok (.iload_n 1, 1) := by decide +kernel
theorem dX11_noise_58 : decode cX11_noise 58 = .ok (.istore_n 3, 1) := by decide +kernel
theorem dX11_noise_59 : decode cX11_noise 59 = .ok (.iconst 0, 1) := by decide +kernel
theorem dX11_noise_60 : decode cX11_noise 60 = .ok (.istore 4, 2) := by decide +kernel
theorem dX11_noise_62 : decode cX11_noise 62 = .ok (.iload 4, 2) := by decide +kernel
theorem dX11_noise_64 : decode cX11_noise 64 = .ok (.iload_n 2, 1) := by decide +kernel
theorem dX11_noise_65 : decode cX11_noise 65 = .ok (.if_icmp .ge 35, 3) := by decide +kernel
theorem dX11_noise_68 : decode cX11_noise 68 = .ok (.iload_n 3, 1) := by decide +kernel
theorem dX11_noise_69 : decode cX11_noise 69 = .ok (.bipush 75, 2) := by decide +kernel
theorem dX11_noise_71 : decode cX11_noise 71 = .ok (.imul, 1) := by decide +kernel
theorem dX11_noise_72 : decode cX11_noise 72 = .ok (.bipush 74, 2) := by decide +kernel
theorem dX11_noise_74 : decode cX11_noise 74 = .ok (.iadd, 1) := by decide +kernel
theorem dX11_noise_75 : decode cX11_noise 75 = .ok (.ldc 113, 2) := by decide +kernel
theorem dX11_noise_77 : decode cX11_noise 77 = .ok (.irem, 1) := by decide +kernel
theorem dX11_noise_78 : decode cX11_noise 78 = .ok (.istore_n 3, 1) := by decide +kernel
theorem dX11_noise_79 : decode cX11_noise 79 = .ok (.aload_n 0, 1) := by decide +kernel
theorem dX11_noise_80 : decode cX11_noise 80 = .ok (.getfield 24, 3) := by decide +kernel
theorem dX11_noise_83 : decode cX11_noise 83 = .ok (.getfield 89, 3) := by decide +kernel
theorem dX11_noise_86 : decode cX11_noise 86 = .ok (.iload_n 3, 1) := by decide +kernel
theorem dX11_noise_87 : decode cX11_noise 87 = .ok (.sipush 256, 3) := by decide +kernel
theorem dX11_noise_90 : decode cX11_noise 90 = .ok (.irem, 1) := by decide +kernel
theorem dX11_noise_91 : decode cX11_noise 91 = .ok (.invokevirtual 114, 3) := by decide +kernel
theorem dX11_noise_94 : decode cX11_noise 94 = .ok (.iinc 4 1, 3) := by decide +kernel
theorem dX11_noise_97 : decode cX11_noise 97 = .ok (.goto (-35), 3) := by decide +kernel
theorem dX11_noise_100 : decode cX11_noise 100 = .ok (.aload_n 0, 1) := by decide +kernel
theorem dX11_noise_101 : decode cX11_noise 101 = .ok (.getfield 24, 3) := by decide +kernel
theorem dX11_noise_104 : decode cX11_noise 104 = .ok (.getfield 89, 3) := by decide +kernel
theorem dX11_noise_107 : decode cX11_noise 107 = .ok (.invokevirtual 93, 3) := by decide +kernel
theorem dX11_noise_110 : decode cX11_noise 110 = .ok (.ireturn, 1) := by decide +kernel
set_option maxRecDepth 20000 in
theorem ggX11_store_X11_isWord : GoodIn wsX11_store wsX11_isWord := goodIn_r _ [9, 10] (by decide +kernel) (by decide +kernel)
set_option maxRecDepth 20000 in
theorem gX11_store_X11_isWord : GoodIn wsX11_store (va_wsS RX11 108 yX11_isWord wsX11_isWord) := goodIn_app (goodIn_of _ (by decide +kernel)) ggX11_store_X11_isWord
set_option maxRecDepth 20000 in
theorem ggX11_store_X2_hasRoomFor : GoodIn wsX11_store wsX2_hasRoomFor := goodIn_r _ [15, 16, 17, 18, 19, 20, 14, 21, 22, 23, 24, 25, 26, 27, 28, 29, 121, 122, 123, 124, 125, 126, 127, 128, 129] (by decide +kernel) (by decide +kernel)
set_option maxRecDepth 20000 in
theorem gX11_store_X2_hasRoomFor : GoodIn wsX11_store (wsV RX11 125 RX2 yX2_hasRoomFor wsX2_hasRoomFor) := goodIn_app (goodIn_of _ (by decide +kernel)) ggX11_store_X2_hasRoomFor
set_option maxRecDepth 20000 in
theorem ggX11_store_X2_put : GoodIn wsX11_store wsX2_put := goodIn_r _ [33, 16, 34, 35, 12, 13, 14, 15, 17, 18, 19, 20, 21, 22, 23, 24, 25, 26, 27, 28, 29, 36, 37, 38, 39, 40, 41, 42, 43, 44, 45, 46, 47, 48, 49, 50, 51, 52, 53, 54, 55, 56, 57, 58, 59, 60, 61, 62, 63, 64, 65, 66, 67, 68, 69, 70, 71, 72, 73, 74, 75, 76, 77, 78, 79, 80, 81, 82, 83, 84, 85, 86, 87, 88, 89, 90, 91, 92, 93, 94, 95, 96, 97, 98, 99, 100, 101, 102, 103, 104, 105, 106, 107, 108, 109, 110, 121, 122, 123, 124, 125, 126, 127, 128, 129, 130, 131, 132] (by decide +kernel) (by decide +kernel)
set_option maxRecDepth 20000 in
theorem gX11_store_X2_put : GoodIn wsX11_store (wsV RX11 130 RX2 yX2_put wsX2_put) := goodIn_app (goodIn_of _ (by decide +kernel)) ggX11_store_X2_put
set_option maxRecDepth 20000 in
theorem ggX11_store_X0_clear : GoodIn wsX11_store wsX0_clear := goodIn_r _ [57, 58, 130, 131] (by decide +kernel) (by decide +kernel)
set_option maxRecDepth 20000 in
theorem gX11_store_X0_clear : GoodIn wsX11_store (wsV RX11 134 RX0 yX0_clear wsX0_clear) := goodIn_app (goodIn_of _ (by decide +kernel)) ggX11_store_X0_clear
set_option maxRecDepth 20000 in
theorem ggX11_store_X2_count : GoodIn wsX11_store wsX2_count := goodIn_r _ [115, 16, 121, 122, 123, 124, 125] (by decide +kernel) (by decide +kernel)
set_option maxRecDepth 20000 in
theorem gX11_store_X2_count : GoodIn wsX11_store (wsV RX11 137 RX2 yX2_count wsX2_count) := goodIn_app (goodIn_of _ (by decide +kernel)) ggX11_store_X2_count
theorem dX11_store_0 : decode cX11_store 0 = .ok (.iload_n 1, 1) := by decide +kernel
theorem dX11_store_1 : decode cX11_store 1 = .ok (.invokestatic 108, 3) := by decide +kernel
theorem dX11_store_4 : decode cX11_store 4 = .ok (.ifCond .ne 13, 3) := by decide +kernel
theorem dX11_store_7 : decode cX11_store 7 = .ok (.new 57, 3) := by decide +kernel
theorem dX11_store_10 : decode cX11_store 10 = .ok (.dup, 1) := by decide +kernel
theorem dX11_store_11 : decode cX11_store 11 = .ok (.ldc 123, 2) := by decide +kernel
theorem dX11_store_13 : decode cX11_store 13 = .ok (.invokespecial 61, 3) := by decide +kernel
theorem dX11_store_16 : decode cX11_store 16 = .ok (.athrow, 1) := by decide +kernel
theorem dX11_store_17 : decode cX11_store 17 = .ok (.aload_n 0, 1) := by decide +kernel
theorem dX11_store_18 : decode cX11_store 18 = .ok (.getfield 24, 3) := by decide +kernel
theorem dX11_store_21 : decode cX11_store 21 = .ok (.iload_n 1, 1) := by decide +kernel
theorem dX11_store_22 : decode cX11_store 22 = .ok (.invokevirtual 125, 3) := by decide +kernel
theorem dX11_store_25 : decode cX11_store 25 = .ok (.ifCond .ne 13, 3) := by decide +kernel
theorem dX11_store_28 : decode cX11_store 28 = .ok (.new 99, 3) := by decide +kernel
theorem dX11_store_31 : decode cX11_store 31 = .ok (.dup, 1) := by decide +kernel
theorem dX11_store_32 : decode cX11_store 32 = .ok (.ldc 128, 2) := by decide +kernel
theorem dX11_store_34 : decode cX11_store 34 = .ok (.invokespecial 103, 3) := by decide +kernel
theorem dX11_store_37 : decode cX11_store 37 = .ok (.athrow, 1) := by decide +kernel
theorem dX11_store_38 : decode cX11_store 38 = .ok (.aload_n 0, 1) := by decide +kernel
theorem dX11_store_39 : decode cX11_store 39 = .ok (.getfield 24, 3) := by decide +kernel
theorem dX11_store_42 : decode cX11_store 42 = .ok (.iload_n 1, 1) := by decide +kernel
theorem dX11_store_43 : decode cX11_store 43 = .ok (.aload_n 0, 1) := by decide +kernel
theorem dX11_store_44 : decode cX11_store 44 = .ok (.getfield 24, 3) := by decide +kernel
theorem dX11_store_47 : decode cX11_store 47 = .ok (.getfield 89, 3) := by decide +kernel
theorem dX11_store_50 : decode cX11_store 50 = .ok (.invokevirtual 130, 3) := by decide +kernel
theorem dX11_store_53 : decode cX11_store 53 = .ok (.aload_n 0, 1) := by decide +kernel
theorem dX11_store_54 : decode cX11_store 54 = .ok (.getfield 24, 3) := by decide +kernel
theorem dX11_store_57 : decode cX11_store 57 = .ok (.getfield 89, 3) := by decide +kernel
theorem dX11_store_60 : decode cX11_store 60 = .ok (.invokevirtual 134, 3) := by decide +kernel
theorem dX11_store_63 : decode cX11_store 63 = .ok (.aload_n 0, 1) := by decide +kernel
theorem dX11_store_64 : decode cX11_store 64 = .ok (.getfield 24, 3) := by decide +kernel
theorem dX11_store_67 : decode cX11_store 67 = .ok (.invokevirtual 137, 3) := by decide +kernel
theorem dX11_store_70 : decode cX11_store 70 = .ok (.ireturn, 1) := by decide +kernel
set_option maxRecDepth 20000 in
theorem ggX11_build_X7_close : GoodIn wsX11_build wsX7_close := goodIn_r _ [10, 11, 189, 190, 191, 192, 193, 194, 195, 196] (by decide +kernel) (by decide +kernel)
set_option maxRecDepth 20000 in
theorem gX11_build_X7_close : GoodIn wsX11_build (wsV RX11 171 RX7 yX7_close wsX7_close) := goodIn_app (goodIn_of _ (by decide +kernel)) ggX11_build_X7_close
set_option maxRecDepth 20000 in
theorem ggX11_build_X2_writtenStream : GoodIn wsX11_build wsX2_writtenStream := goodIn_r _ [16, 17, 18, 19, 20, 21, 22, 23, 24, 25, 26, 27, 28, 15, 29, 30, 31, 32, 33, 34, 35, 36, 37, 38, 39, 40, 41, 42, 43, 44, 45, 46, 47, 48, 49, 50, 51, 52, 53, 54, 55, 56, 57, 58, 59, 60, 61, 62, 63, 64, 65, 66, 67, 68, 69, 70, 71, 72, 73, 74, 75, 76, 77, 78, 79, 80, 81, 82, 83, 84, 85, 86, 87, 88, 197, 198, 199, 200, 201, 202, 203, 204, 205, 206, 207, 208] (by decide +kernel) (by decide +kernel)
set_option maxRecDepth 20000 in
theorem gX11_build_X2_writtenStream : GoodIn wsX11_build (wsV RX11 174 RX2 yX2_writtenStream wsX2_writtenStream) := goodIn_app (goodIn_of _ (by decide +kernel)) ggX11_build_X2_writtenStream
set_option maxRecDepth 20000 in
theorem ggX11_build_X9_fillWith : GoodIn wsX11_build wsX9_fillWith := goodIn_r _ [93, 94, 95, 96, 97, 98, 92, 99, 100, 101, 45, 46, 23, 47, 25, 102, 103, 104, 105, 106, 107, 108, 109, 110, 111, 112, 113, 21, 22, 24, 114, 49, 50, 51, 52, 115, 54, 55, 56, 57, 116, 117, 118, 119, 120, 121, 122, 123, 124, 125, 126, 127, 128, 129, 130, 131, 132, 133, 134, 135, 136, 137, 138, 139, 140, 141, 142, 143, 63, 64, 65, 144, 145, 146, 147, 148, 149, 150, 151, 152, 153, 154, 155, 156, 157, 158, 159, 160, 161, 162, 83, 84, 79, 85, 81, 86, 87, 163, 164, 165, 166, 167, 168, 169, 170, 171, 172, 173, 174, 175, 176, 177, 178, 179, 180, 181, 62, 209, 210, 211, 212, 213, 214, 215, 216, 217, 218, 219, 202, 203, 220, 221, 208] (by decide +kernel) (by decide +kernel)
set_option maxRecDepth 20000 in
theorem gX11_build_X9_fillWith : GoodIn wsX11_build (wsV RX11 178 RX9 yX9_fillWith wsX9_fillWith) := goodIn_app (goodIn_of _ (by decide +kernel)) ggX11_build_X9_fillWith
set_option maxRecDepth 20000 in
theorem ggX11_build_X0_size : GoodIn wsX11_build wsX0_size := goodIn_r _ [47, 25, 202, 203] (by decide +kernel) (by decide +kernel)
set_option maxRecDepth 20000 in
theorem gX11_build_X0_size : GoodIn wsX11_build (wsV RX11 93 RX0 yX0_size wsX0_size) := goodIn_app (goodIn_of _ (by decide +kernel)) ggX11_build_X0_size
set_option maxRecDepth 20000 in
theorem ggX11_build_X11_bodySize : GoodIn wsX11_build wsX11_bodySize := goodIn_r _ [112] (by decide +kernel) (by decide +kernel)
set_option maxRecDepth 20000 in
theorem gX11_build_X11_bodySize : GoodIn wsX11_build (va_wsS RX11 182 yX11_bodySize wsX11_bodySize) := goodIn_app (goodIn_of _ (by decide +kernel)) ggX11_build_X11_bodySize
theorem dX11_build_0 : decode cX11_build 0 = .ok (.iload_n 1, 1) := by decide +kernel
theorem dX11_build_1 : decode cX11_build 1 = .ok (.iconst 1, 1) := by decide +kernel
theorem dX11_build_2 : decode cX11_build 2 = .ok (.if_icmp .lt 19, 3) := by decide +kernel
theorem dX11_build_5 : decode cX11_build 5 = .ok (.iload_n 1, 1) := by decide +kernel
theorem dX11_build_6 : decode cX11_build 6 = .ok (.bipush 10, 2) := by decide +kernel
theorem dX11_build_8 : decode cX11_build 8 = .ok (.if_icmp .gt 13, 3) := by decide +kernel
theorem dX11_build_11 : decode cX11_build 11 = .ok (.iload_n 2, 1) := by decide +kernel
theorem dX11_build_12 : decode cX11_build 12 = .ok (.ifCond .lt 9, 3) := by decide +kernel
theorem dX11_build_15 : decode cX11_build 15 = .ok (.iload_n 2, 1) := by decide +kernel
theorem dX11_build_16 : decode cX11_build 16 = .ok (.bipush 6, 2) := by decide +kernel
theorem dX11_build_18 : decode cX11_build 18 = .ok (.if_icmp .le 13, 3) := by decide +kernel
theorem dX11_build_21 : decode cX11_build 21 = .ok (.new 57, 3) := by decide +kernel
theorem dX11_build_24 : decode cX11_build 24 = .ok (.dup, 1) := by decide +kernel
theorem dX11_build_25 : decode cX11_build 25 = .ok (.ldc 169, 2) := by decide +kernel
theorem dX11_build_27 : decode cX11_build 27 = .ok (.invokespecial 61, 3) := by decide +kernel
theorem dX11_build_30 : decode cX11_build 30 = .ok (.athrow, 1) := by decide +kernel
theorem dX11_build_31 : decode cX11_build 31 = .ok (.aload_n 0, 1) := by decide +kernel
theorem dX11_build_32 : decode cX11_build 32 = .ok (.getfield 49, 3) := by decide +kernel
theorem dX11_build_35 : decode cX11_build 35 = .ok (.invokevirtual 171, 3) := by decide +kernel
theorem dX11_build_38 : decode cX11_build 38 = .ok (.aload_n 0, 1) := by decide +kernel
theorem dX11_build_39 : decode cX11_build 39 = .ok (.getfield 24, 3) := by decide +kernel
theorem dX11_build_42 : decode cX11_build 42 = .ok (.invokevirtual 174, 3) := by decide +kernel
theorem dX11_build_45 : decode cX11_build 45 = .ok (.astore_n 3, 1) := by decide +kernel
theorem dX11_build_46 : decode cX11_build 46 = .ok (.aload_n 0, 1) := by decide +kernel
theorem dX11_build_47 : decode cX11_build 47 = .ok (.getfield 33, 3) := by decide +kernel
theorem dX11_build_50 : decode cX11_build 50 = .ok (.aload_n 3, 1) := by decide +kernel
theorem dX11_build_51 : decode cX11_build 51 = .ok (.iload_n 1, 1) := by decide +kernel
theorem dX11_build_52 : decode cX11_build 52 = .ok (.iload_n 2, 1) := by decide +kernel
theorem dX11_build_53 : decode cX11_build 53 = .ok (.invokevirtual 178, 3) := by decide +kernel
theorem dX11_build_56 : decode cX11_build 56 = .ok (.pop, 1) := by decide +kernel
theorem dX11_build_57 : decode cX11_build 57 = .ok (.aload_n 3, 1) := by decide +kernel
theorem dX11_build_58 : decode cX11_build 58 = .ok (.invokevirtual 93, 3) := by decide +kernel
theorem dX11_build_61 : decode cX11_build 61 = .ok (.iload_n 1, 1) := by decide +kernel
theorem dX11_build_62 : decode cX11_build 62 = .ok (.invokestatic 182, 3) := by decide +kernel
theorem dX11_build_65 : decode cX11_build 65 = .ok (.ireturn, 1) := by decide +kernel
set_option maxRecDepth 20000 in
theorem ggX11_sizeOf_X11_placeOnShelf : GoodIn wsX11_sizeOf wsX11_placeOnShelf := goodIn_ca (goodIn_r _ [5, 6, 7, 8, 9, 10, 11, 12, 13, 14, 28, 29, 30, 31, 32, 33, 34, 35, 36, 37, 38, 39] (by decide +kernel) (by decide +kernel)) (goodIn_sub (fun _ h => List.mem_cons_of_mem _ (List.mem_append_right _ h)) (by decide +kernel))
set_option maxRecDepth 20000 in
theorem gX11_sizeOf_X11_placeOnShelf : GoodIn wsX11_sizeOf (wsV RX11 185 RX11 yX11_placeOnShelf wsX11_placeOnShelf) := goodIn_app (goodIn_of _ (by decide +kernel)) ggX11_sizeOf_X11_placeOnShelf
set_option maxRecDepth 20000 in
theorem ggX11_sizeOf_X10_size : GoodIn wsX11_sizeOf wsX10_size := goodIn_r _ [19, 20, 21, 22, 23, 24, 25, 26, 27, 40, 41, 42, 43, 44, 45] (by decide +kernel) (by decide +kernel)
set_option maxRecDepth 20000 in
theorem gX11_sizeOf_X10_size : GoodIn wsX11_sizeOf (wsV RX11 189 RX10 yX10_size wsX10_size) := goodIn_app (goodIn_of _ (by decide +kernel)) ggX11_sizeOf_X10_size
theorem dX11_sizeOf_0 : decode cX11_sizeOf 0 = .ok (.aload_n 0, 1) := by decide +kernel
theorem dX11_sizeOf_1 : decode cX11_sizeOf 1 = .ok (.iload_n 1, 1) := by decide +kernel
theorem dX11_sizeOf_2 : decode cX11_sizeOf 2 = .ok (.invokevirtual 185, 3) := by decide +kernel
theorem dX11_sizeOf_5 : decode cX11_sizeOf 5 = .ok (.invokevirtual 189, 3) := by decide +kernel
theorem dX11_sizeOf_8 : decode cX11_sizeOf 8 = .ok (.ireturn, 1) := by decide +kernel
set_option maxRecDepth 20000 in
theorem ggX11_byteAt_X11_volumeOnShelf : GoodIn wsX11_byteAt wsX11_volumeOnShelf := goodIn_ca (goodIn_r _ [5, 6, 7, 8, 9, 10, 4, 11, 12, 13, 14, 15, 16, 17, 18, 19, 20, 21, 22, 23, 24, 43, 44, 45, 46, 47, 48, 49, 50, 51, 52, 53, 54, 39, 40, 41, 42] (by decide +kernel) (by decide +kernel)) (goodIn_sub (fun _ h => List.mem_cons_of_mem _ (List.mem_append_right _ h)) (by decide +kernel))
set_option maxRecDepth 20000 in
theorem gX11_byteAt_X11_volumeOnShelf : GoodIn wsX11_byteAt (wsV RX11 192 RX11 yX11_volumeOnShelf wsX11_volumeOnShelf) := goodIn_app (goodIn_of _ (by decide +kernel)) ggX11_byteAt_X11_volumeOnShelf
set_option maxRecDepth 20000 in
theorem ggX11_byteAt_X11_byteIn : GoodIn wsX11_byteAt wsX11_byteIn := goodIn_ca (goodIn_r _ [27, 6, 7, 28, 29, 30, 31, 32, 33, 34, 35, 36, 37, 38, 55, 56] (by decide +kernel) (by decide +kernel)) (goodIn_sub (fun _ h => List.mem_cons_of_mem _ (List.mem_append_right _ h)) (by decide +kernel))
set_option maxRecDepth 20000 in
theorem gX11_byteAt_X11_byteIn : GoodIn wsX11_byteAt (va_wsS RX11 156 yX11_byteIn wsX11_byteIn) := goodIn_app (goodIn_of _ (by decide +kernel)) ggX11_byteAt_X11_byteIn
theorem dX11_byteAt_0 : decode cX11_byteAt 0 = .ok (.aload_n 0, 1) := by decide +kernel
theorem dX11_byteAt_1 : decode cX11_byteAt 1 = .ok (.iload_n 1, 1) := by decide +kernel
theorem dX11_byteAt_2 : decode cX11_byteAt 2 = .ok (.invokevirtual 192, 3) := by decide +kernel
theorem dX11_byteAt_5 : decode cX11_byteAt 5 = .ok (.getfield 195, 3) := by decide +kernel
theorem dX11_byteAt_8 : decode cX11_byteAt 8 = .ok (.iload_n 2, 1) := by decide +kernel
theorem dX11_byteAt_9 : decode cX11_byteAt 9 = .ok (.invokestatic 156, 3) := by decide +kernel
theorem dX11_byteAt_12 : decode cX11_byteAt 12 = .ok (.ireturn, 1) := by decide +kernel
set_option maxRecDepth 20000 in
theorem ggX11_spoil_X11_volumeOnShelf : GoodIn wsX11_spoil wsX11_volumeOnShelf := goodIn_ca (goodIn_r _ [9, 1, 2, 10, 11, 12, 8, 13, 14, 15, 16, 17, 18, 19, 20, 21, 22, 23, 24, 25, 26, 55, 56, 57, 58, 59, 60, 61, 62, 63, 64, 65, 66, 67, 68, 69, 70] (by decide +kernel) (by decide +kernel)) (goodIn_sub (fun _ h => List.mem_cons_of_mem _ (List.mem_append_left _ (List.mem_append_right _ h))) (by decide +kernel))
set_option maxRecDepth 20000 in
theorem gX11_spoil_X11_volumeOnShelf : GoodIn wsX11_spoil (wsV RX11 192 RX11 yX11_volumeOnShelf wsX11_volumeOnShelf) := goodIn_app (goodIn_of _ (by decide +kernel)) ggX11_spoil_X11_volumeOnShelf
set_option maxRecDepth 20000 in
theorem ggX11_spoil_X10_size : GoodIn wsX11_spoil wsX10_size := goodIn_r _ [30, 26, 31, 32, 33, 34, 35, 36, 37, 67, 68, 69, 70, 71, 72] (by decide +kernel) (by decide +kernel)
set_option maxRecDepth 20000 in
theorem gX11_spoil_X10_size : GoodIn wsX11_spoil (wsV RX11 189 RX10 yX10_size wsX10_size) := goodIn_app (goodIn_of _ (by decide +kernel)) ggX11_spoil_X10_size
set_option maxRecDepth 20000 in
theorem ggX11_spoil_X11_isByte : GoodIn wsX11_spoil wsX11_isByte := goodIn_r _ [40] (by decide +kernel) (by decide +kernel)
set_option maxRecDepth 20000 in
theorem gX11_spoil_X11_isByte : GoodIn wsX11_spoil (va_wsS RX11 53 yX11_isByte wsX11_isByte) := goodIn_app (goodIn_of _ (by decide +kernel)) ggX11_spoil_X11_isByte
set_option maxRecDepth 20000 in
theorem ggX11_spoil_X10_mix : GoodIn wsX11_spoil wsX10_mix := goodIn_r _ [44, 45, 31, 46, 47, 48, 35, 49, 37, 50, 51, 52, 53, 54, 67, 68, 69, 70, 71, 72] (by decide +kernel) (by decide +kernel)
set_option maxRecDepth 20000 in
theorem gX11_spoil_X10_mix : GoodIn wsX11_spoil (wsV RX11 202 RX10 yX10_mix wsX10_mix) := goodIn_app (goodIn_of _ (by decide +kernel)) ggX11_spoil_X10_mix
theorem dX11_spoil_0 : decode cX11_spoil 0 = .ok (.aload_n 0, 1) := by decide +kernel
theorem dX11_spoil_1 : decode cX11_spoil 1 = .ok (.iload_n 1, 1) := by decide +kernel
theorem dX11_spoil_2 : decode cX11_spoil 2 = .ok (.invokevirtual 192, 3) := by decide +kernel
theorem dX11_spoil_5 : decode cX11_spoil 5 = .ok (.astore 4, 2) := by decide +kernel
theorem dX11_spoil_7 : decode cX11_spoil 7 = .ok (.iload_n 2, 1) := by decide +kernel
theorem dX11_spoil_8 : decode cX11_spoil 8 = .ok (.ifCond .lt 12, 3) := by decide +kernel
theorem dX11_spoil_11 : decode cX11_spoil 11 = .ok (.iload_n 2, 1) := by decide +kernel
theorem dX11_spoil_12 : decode cX11_spoil 12 = .ok (.aload 4, 2) := by decide +kernel
theorem dX11_spoil_14 : decode cX11_spoil 14 = .ok (.invokevirtual 189, 3) := by decide +kernel
theorem dX11_spoil_17 : decode cX11_spoil 17 = .ok (.if_icmp .lt 13, 3) := by decide +kernel
theorem dX11_spoil_20 : decode cX11_spoil 20 = .ok (.new 79, 3) := by decide +kernel
theorem dX11_spoil_23 : decode cX11_spoil 23 = .ok (.dup, 1) := by decide +kernel
theorem dX11_spoil_24 : decode cX11_spoil 24 = .ok (.ldc 198, 2) := by decide +kernel
theorem dX11_spoil_26 : decode cX11_spoil 26 = .ok (.invokespecial 83, 3) := by decide +kernel
theorem dX11_spoil_29 : decode cX11_spoil 29 = .ok (.athrow, 1) := by decide +kernel
theorem dX11_spoil_30 : decode cX11_spoil 30 = .ok (.iload_n 3, 1) := by decide +kernel
theorem dX11_spoil_31 : decode cX11_spoil 31 = .ok (.invokestatic 53, 3) := by decide +kernel
theorem dX11_spoil_34 : decode cX11_spoil 34 = .ok (.ifCond .ne 13, 3) := by decide +kernel
theorem dX11_spoil_37 : decode cX11_spoil 37 = .ok (.new 57, 3) := by decide +kernel
theorem dX11_spoil_40 : decode cX11_spoil 40 = .ok (.dup, 1) := by decide +kernel
theorem dX11_spoil_41 : decode cX11_spoil 41 = .ok (.ldc 200, 2) := by decide +kernel
theorem dX11_spoil_43 : decode cX11_spoil 43 = .ok (.invokespecial 61, 3) := by decide +kernel
theorem dX11_spoil_46 : decode cX11_spoil 46 = .ok (.athrow, 1) := by decide +kernel
theorem dX11_spoil_47 : decode cX11_spoil 47 = .ok (.aload 4, 2) := by decide +kernel
theorem dX11_spoil_49 : decode cX11_spoil 49 = .ok (.iload_n 2, 1) := by decide +kernel
theorem dX11_spoil_50 : decode cX11_spoil 50 = .ok (.iload_n 3, 1) := by decide +kernel
theorem dX11_spoil_51 : decode cX11_spoil 51 = .ok (.invokevirtual 202, 3) := by decide +kernel
theorem dX11_spoil_54 : decode cX11_spoil 54 = .ok (.ireturn, 1) := by decide +kernel
set_option maxRecDepth 20000 in
theorem ggX11_sign_X11_volumeOnShelf : GoodIn wsX11_sign wsX11_volumeOnShelf := goodIn_ca (goodIn_r _ [7, 8, 9, 10, 11, 12, 6, 13, 14, 15, 16, 17, 18, 19, 20, 21, 22, 23, 24, 25, 26, 69, 70, 71, 72, 73, 74, 75, 76, 77, 78, 79, 80, 81, 82, 83, 84] (by decide +kernel) (by decide +kernel)) (goodIn_sub (fun _ h => List.mem_cons_of_mem _ (List.mem_append_right _ h)) (by decide +kernel))
set_option maxRecDepth 20000 in
theorem gX11_sign_X11_volumeOnShelf : GoodIn wsX11_sign (wsV RX11 192 RX11 yX11_volumeOnShelf wsX11_volumeOnShelf) := goodIn_app (goodIn_of _ (by decide +kernel)) ggX11_sign_X11_volumeOnShelf
set_option maxRecDepth 20000 in
theorem ggX11_sign_X10_size : GoodIn wsX11_sign wsX10_size := goodIn_r _ [30, 26, 31, 32, 33, 34, 35, 36, 37, 81, 82, 83, 84, 85, 86] (by decide +kernel) (by decide +kernel)
set_option maxRecDepth 20000 in
theorem gX11_sign_X10_size : GoodIn wsX11_sign (wsV RX11 189 RX10 yX10_size wsX10_size) := goodIn_app (goodIn_of _ (by decide +kernel)) ggX11_sign_X10_size
set_option maxRecDepth 20000 in
theorem ggX11_sign_X10_seal : GoodIn wsX11_sign wsX10_seal := goodIn_r _ [41, 42, 31, 43, 44, 45, 24, 46, 47, 48, 49, 50, 51, 52, 53, 54, 55, 56, 57, 58, 35, 59, 37, 60, 32, 33, 34, 36, 61, 62, 63, 64, 65, 66, 67, 68, 81, 82, 83, 84, 87, 85, 86] (by decide +kernel) (by decide +kernel)
set_option maxRecDepth 20000 in
theorem gX11_sign_X10_seal : GoodIn wsX11_sign (wsV RX11 207 RX10 yX10_seal wsX10_seal) := goodIn_app (goodIn_of _ (by decide +kernel)) ggX11_sign_X10_seal
theorem dX11_sign_0 : decode cX11_sign 0 = .ok (.aload_n 0, 1) := by decide +kernel
theorem dX11_sign_1 : decode cX11_sign 1 = .ok (.iload_n 1, 1) := by decide +kernel
theorem dX11_sign_2 : decode cX11_sign 2 = .ok (.invokevirtual 192, 3) := by decide +kernel
theorem dX11_sign_5 : decode cX11_sign 5 = .ok (.astore_n 2, 1) := by decide +kernel
theorem dX11_sign_6 : decode cX11_sign 6 = .ok (.aload_n 2, 1) := by decide +kernel
theorem dX11_sign_7 : decode cX11_sign 7 = .ok (.invokevirtual 189, 3) := by decide +kernel
theorem dX11_sign_10 : decode cX11_sign 10 = .ok (.bipush 10, 2) := by decide +kernel
theorem dX11_sign_12 : decode cX11_sign 12 = .ok (.if_icmp .ge 13, 3) := by decide +kernel
theorem dX11_sign_15 : decode cX11_sign 15 = .ok (.new 99, 3) := by decide +kernel
theorem dX11_sign_18 : decode cX11_sign 18 = .ok (.dup, 1) := by decide +kernel
theorem dX11_sign_19 : decode cX11_sign 19 = .ok (.ldc 205, 2) := by decide +kernel
theorem dX11_sign_21 : decode cX11_sign 21 = .ok (.invokespecial 103, 3) := by decide +kernel
theorem dX11_sign_24 : decode cX11_sign 24 = .ok (.athrow, 1) := by decide +kernel
theorem dX11_sign_25 : decode cX11_sign 25 = .ok (.aload_n 2, 1) := by decide +kernel
theorem dX11_sign_26 : decode cX11_sign 26 = .ok (.invokevirtual 207, 3) := by decide +kernel
theorem dX11_sign_29 : decode cX11_sign 29 = .ok (.ireturn, 1) := by decide +kernel
set_option maxRecDepth 20000 in
theorem ggX11_cut_X11_volumeOnShelf : GoodIn wsX11_cut wsX11_volumeOnShelf := goodIn_ca (goodIn_r _ [7, 8, 9, 10, 11, 12, 6, 13, 14, 15, 16, 17, 18, 19, 20, 21, 22, 23, 24, 25, 26, 47, 48, 49, 50, 51, 52, 53, 54, 55, 56, 57, 58, 59, 60, 61, 62] (by decide +kernel) (by decide +kernel)) (goodIn_sub (fun _ h => List.mem_cons_of_mem _ (List.mem_append_right _ h)) (by decide +kernel))
set_option maxRecDepth 20000 in
theorem gX11_cut_X11_volumeOnShelf : GoodIn wsX11_cut (wsV RX11 192 RX11 yX11_volumeOnShelf wsX11_volumeOnShelf) := goodIn_app (goodIn_of _ (by decide +kernel)) ggX11_cut_X11_volumeOnShelf
set_option maxRecDepth 20000 in
theorem ggX11_cut_X10_size : GoodIn wsX11_cut wsX10_size := goodIn_r _ [30, 26, 31, 32, 33, 34, 35, 36, 37, 59, 60, 61, 62, 63, 64] (by decide +kernel) (by decide +kernel)
set_option maxRecDepth 20000 in
theorem gX11_cut_X10_size : GoodIn wsX11_cut (wsV RX11 189 RX10 yX10_size wsX10_size) := goodIn_app (goodIn_of _ (by decide +kernel)) ggX11_cut_X10_size
set_option maxRecDepth 20000 in
theorem ggX11_cut_X10_shorten : GoodIn wsX11_cut wsX10_shorten := goodIn_r _ [41, 42, 31, 43, 44, 45, 35, 46, 37, 59, 60, 61, 62, 63, 64] (by decide +kernel) (by decide +kernel)
set_option maxRecDepth 20000 in
theorem gX11_cut_X10_shorten : GoodIn wsX11_cut (wsV RX11 212 RX10 yX10_shorten wsX10_shorten) := goodIn_app (goodIn_of _ (by decide +kernel)) ggX11_cut_X10_shorten
theorem dX11_cut_0 : decode cX11_cut 0 = .ok (.aload_n 0, 1) := by decide +kernel
theorem dX11_cut_1 : decode cX11_cut 1 = .ok (.iload_n 1, 1) := by decide +kernel
theorem dX11_cut_2 : decode cX11_cut 2 = .ok (.invokevirtual 192, 3) := by decide +kernel
theorem dX11_cut_5 : decode cX11_cut 5 = .ok (.astore_n 3, 1) := by decide +kernel
theorem dX11_cut_6 : decode cX11_cut 6 = .ok (.aload_n 3, 1) := by decide +kernel
theorem dX11_cut_7 : decode cX11_cut 7 = .ok (.invokevirtual 189, 3) := by decide +kernel
theorem dX11_cut_10 : decode cX11_cut 10 = .ok (.istore 4, 2) := by decide +kernel
theorem dX11_cut_12 : decode cX11_cut 12 = .ok (.iload_n 2, 1) := by decide +kernel
theorem dX11_cut_13 : decode cX11_cut 13 = .ok (.ifCond .lt 9, 3) := by decide +kernel
theorem dX11_cut_16 : decode cX11_cut 16 = .ok (.iload_n 2, 1) := by decide +kernel
theorem dX11_cut_17 : decode cX11_cut 17 = .ok (.iload 4, 2) := by decide +kernel
theorem dX11_cut_19 : decode cX11_cut 19 = .ok (.if_icmp .le 13, 3) := by decide +kernel
theorem dX11_cut_22 : decode cX11_cut 22 = .ok (.new 57, 3) := by decide +kernel
theorem dX11_cut_25 : decode cX11_cut 25 = .ok (.dup, 1) := by decide +kernel
theorem dX11_cut_26 : decode cX11_cut 26 = .ok (.ldc 210, 2) := by decide +kernel
theorem dX11_cut_28 : decode cX11_cut 28 = .ok (.invokespecial 61, 3) := by decide +kernel
theorem dX11_cut_31 : decode cX11_cut 31 = .ok (.athrow, 1) := by decide +kernel
theorem dX11_cut_32 : decode cX11_cut 32 = .ok (.aload_n 3, 1) := by decide +kernel
theorem dX11_cut_33 : decode cX11_cut 33 = .ok (.iload_n 2, 1) := by decide +kernel
theorem dX11_cut_34 : decode cX11_cut 34 = .ok (.invokevirtual 212, 3) := by decide +kernel
theorem dX11_cut_37 : decode cX11_cut 37 = .ok (.iload 4, 2) := by decide +kernel
theorem dX11_cut_39 : decode cX11_cut 39 = .ok (.ireturn, 1) := by decide +kernel
set_option maxRecDepth 20000 in
theorem ggX11_lose_X11_placeOnShelf : GoodIn wsX11_lose wsX11_placeOnShelf := goodIn_ca (goodIn_r _ [5, 6, 7, 8, 9, 10, 11, 12, 13, 14, 33, 34, 35, 36, 37, 38, 39, 40, 41, 42, 43, 44] (by decide +kernel) (by decide +kernel)) (goodIn_sub (fun _ h => List.mem_cons_of_mem _ (List.mem_append_right _ h)) (by decide +kernel))
set_option maxRecDepth 20000 in
theorem gX11_lose_X11_placeOnShelf : GoodIn wsX11_lose (wsV RX11 185 RX11 yX11_placeOnShelf wsX11_placeOnShelf) := goodIn_app (goodIn_of _ (by decide +kernel)) ggX11_lose_X11_placeOnShelf
set_option maxRecDepth 20000 in
theorem ggX11_lose_X10_isHere : GoodIn wsX11_lose wsX10_isHere := goodIn_r _ [19, 20, 45, 46, 47, 48] (by decide +kernel) (by decide +kernel)
set_option maxRecDepth 20000 in
theorem gX11_lose_X10_isHere : GoodIn wsX11_lose (wsV RX11 213 RX10 yX10_isHere wsX10_isHere) := goodIn_app (goodIn_of _ (by decide +kernel)) ggX11_lose_X10_isHere
set_option maxRecDepth 20000 in
theorem ggX11_lose_X10_vanish : GoodIn wsX11_lose wsX10_vanish := goodIn_r _ [24, 20, 25, 26, 27, 28, 29, 30, 31, 32, 45, 46, 47, 48, 49, 50] (by decide +kernel) (by decide +kernel)
set_option maxRecDepth 20000 in
theorem gX11_lose_X10_vanish : GoodIn wsX11_lose (wsV RX11 217 RX10 yX10_vanish wsX10_vanish) := goodIn_app (goodIn_of _ (by decide +kernel)) ggX11_lose_X10_vanish
theorem dX11_lose_0 : decode cX11_lose 0 = .ok (.aload_n 0, 1) := by decide +kernel
theorem dX11_lose_1 : decode cX11_lose 1 = .ok (.iload_n 1, 1) := by decide +kernel
theorem dX11_lose_2 : decode cX11_lose 2 = .ok (.invokevirtual 185, 3) := by decide +kernel
theorem dX11_lose_5 : decode cX11_lose 5 = .ok (.astore_n 2, 1) := by decide +kernel
theorem dX11_lose_6 : decode cX11_lose 6 = .ok (.aload_n 2, 1) := by decide +kernel
theorem dX11_lose_7 : decode cX11_lose 7 = .ok (.invokevirtual 213, 3) := by decide +kernel
theorem dX11_lose_10 : decode cX11_lose 10 = .ok (.istore_n 3, 1) := by decide +kernel
theorem dX11_lose_11 : decode cX11_lose 11 = .ok (.aload_n 2, 1) := by decide +kernel
theorem dX11_lose_12 : decode cX11_lose 12 = .ok (.invokevirtual 217, 3) := by decide +kernel
theorem dX11_lose_15 : decode cX11_lose 15 = .ok (.iload_n 3, 1) := by decide +kernel
theorem dX11_lose_16 : decode cX11_lose 16 = .ok (.ireturn, 1) := by decide +kernel
set_option maxRecDepth 20000 in
theorem ggX11_exchange_X11_placeOnShelf : GoodIn wsX11_exchange wsX11_placeOnShelf := goodIn_ca (goodIn_r _ [6, 7, 8, 1, 9, 10, 11, 12, 13, 14, 26, 27, 28, 29, 30, 31, 32, 33, 34, 35, 36, 37] (by decide +kernel) (by decide +kernel)) (goodIn_sub (fun _ h => List.mem_cons_of_mem _ (List.mem_append_right _ h)) (by decide +kernel))
set_option maxRecDepth 20000 in
theorem gX11_exchange_X11_placeOnShelf : GoodIn wsX11_exchange (wsV RX11 185 RX11 yX11_placeOnShelf wsX11_placeOnShelf) := goodIn_app (goodIn_of _ (by decide +kernel)) ggX11_exchange_X11_placeOnShelf
set_option maxRecDepth 20000 in
theorem ggX11_exchange_X9_swap : GoodIn wsX11_exchange wsX9_swap := goodIn_r _ [18, 14, 19, 10, 11, 12, 13, 31, 32, 33, 34, 35, 36, 37] (by decide +kernel) (by decide +kernel)
set_option maxRecDepth 20000 in
theorem gX11_exchange_X9_swap : GoodIn wsX11_exchange (wsV RX11 220 RX9 yX9_swap wsX9_swap) := goodIn_app (goodIn_of _ (by decide +kernel)) ggX11_exchange_X9_swap
set_option maxRecDepth 20000 in
theorem ggX11_exchange_X10_isHere : GoodIn wsX11_exchange wsX10_isHere := goodIn_r _ [24, 25, 38, 39, 40, 41] (by decide +kernel) (by decide +kernel)
set_option maxRecDepth 20000 in
theorem gX11_exchange_X10_isHere : GoodIn wsX11_exchange (wsV RX11 213 RX10 yX10_isHere wsX10_isHere) := goodIn_app (goodIn_of _ (by decide +kernel)) ggX11_exchange_X10_isHere
theorem dX11_exchange_0 : decode cX11_exchange 0 = .ok (.aload_n 0, 1) := by decide +kernel
theorem dX11_exchange_1 : decode cX11_exchange 1 = .ok (.iload_n 1, 1) := by decide +kernel
theorem dX11_exchange_2 : decode cX11_exchange 2 = .ok (.invokevirtual 185, 3) := by decide +kernel
theorem dX11_exchange_5 : decode cX11_exchange 5 = .ok (.astore_n 3, 1) := by decide +kernel
theorem dX11_exchange_6 : decode cX11_exchange 6 = .ok (.aload_n 0, 1) := by decide +kernel
theorem dX11_exchange_7 : decode cX11_exchange 7 = .ok (.iload_n 2, 1) := by decide +kernel
theorem dX11_exchange_8 : decode cX11_exchange 8 = .ok (.invokevirtual 185, 3) := by decide +kernel
theorem dX11_exchange_11 : decode cX11_exchange 11 = .ok (.astore 4, 2) := by decide +kernel
theorem dX11_exchange_13 : decode cX11_exchange 13 = .ok (.aload_n 0, 1) := by decide +kernel
theorem dX11_exchange_14 : decode cX11_exchange 14 = .ok (.getfield 33, 3) := by decide +kernel
theorem dX11_exchange_17 : decode cX11_exchange 17 = .ok (.iload_n 1, 1) := by decide +kernel
theorem dX11_exchange_18 : decode cX11_exchange 18 = .ok (.iload_n 2, 1) := by decide +kernel
theorem dX11_exchange_19 : decode cX11_exchange 19 = .ok (.invokevirtual 220, 3) := by decide +kernel
theorem dX11_exchange_22 : decode cX11_exchange 22 = .ok (.aload_n 3, 1) := by decide +kernel
theorem dX11_exchange_23 : decode cX11_exchange 23 = .ok (.invokevirtual 213, 3) := by decide +kernel
theorem dX11_exchange_26 : decode cX11_exchange 26 = .ok (.ifCond .eq 7, 3) := by decide +kernel
theorem dX11_exchange_29 : decode cX11_exchange 29 = .ok (.iconst 1, 1) := by decide +kernel
theorem dX11_exchange_30 : decode cX11_exchange 30 = .ok (.goto 4, 3) := by decide +kernel
theorem dX11_exchange_33 : decode cX11_exchange 33 = .ok (.iconst 0, 1) := by decide +kernel
theorem dX11_exchange_34 : decode cX11_exchange 34 = .ok (.aload 4, 2) := by decide +kernel
theorem dX11_exchange_36 : decode cX11_exchange 36 = .ok (.invokevirtual 213, 3) := by decide +kernel
theorem dX11_exchange_39 : decode cX11_exchange 39 = .ok (.ifCond .eq 7, 3) := by decide +kernel
theorem dX11_exchange_42 : decode cX11_exchange 42 = .ok (.iconst 1, 1) := by decide +kernel
theorem dX11_exchange_43 : decode cX11_exchange 43 = .ok (.goto 4, 3) := by decide +kernel
theorem dX11_exchange_46 : decode cX11_exchange 46 = .ok (.iconst 0, 1) := by decide +kernel
theorem dX11_exchange_47 : decode cX11_exchange 47 = .ok (.iadd, 1) := by decide +kernel
theorem dX11_exchange_48 : decode cX11_exchange 48 = .ok (.ireturn, 1) := by decide +kernel
set_option maxRecDepth 20000 in
theorem ggX11_copy_X11_volumeOnShelf : GoodIn wsX11_copy wsX11_volumeOnShelf := goodIn_ca (goodIn_r _ [5, 6, 7, 8, 9, 10, 4, 11, 12, 13, 14, 15, 16, 17, 18, 19, 20, 21, 22, 23, 24, 63, 64, 65, 66, 67, 68, 69, 70, 71, 72, 73, 74, 75, 76, 77, 78] (by decide +kernel) (by decide +kernel)) (goodIn_sub (fun _ h => List.mem_cons_of_mem _ (List.mem_append_right _ h)) (by decide +kernel))
set_option maxRecDepth 20000 in
theorem gX11_copy_X11_volumeOnShelf : GoodIn wsX11_copy (wsV RX11 192 RX11 yX11_volumeOnShelf wsX11_volumeOnShelf) := goodIn_app (goodIn_of _ (by decide +kernel)) ggX11_copy_X11_volumeOnShelf
set_option maxRecDepth 20000 in
theorem ggX11_copy_X11_placeOnShelf : GoodIn wsX11_copy wsX11_placeOnShelf := goodIn_ca (goodIn_r _ [11, 6, 7, 12, 13, 14, 15, 16, 17, 18, 63, 64, 65, 66, 67, 68, 69, 70, 71, 72, 73, 74] (by decide +kernel) (by decide +kernel)) (goodIn_sub (fun _ h => List.mem_cons_of_mem _ (List.mem_append_right _ h)) (by decide +kernel))
set_option maxRecDepth 20000 in
theorem gX11_copy_X11_placeOnShelf : GoodIn wsX11_copy (wsV RX11 185 RX11 yX11_placeOnShelf wsX11_placeOnShelf) := goodIn_app (goodIn_of _ (by decide +kernel)) ggX11_copy_X11_placeOnShelf
set_option maxRecDepth 20000 in
theorem ggX11_copy_X10_become : GoodIn wsX11_copy wsX10_become := goodIn_r _ [28, 24, 29, 30, 31, 32, 33, 34, 35, 36, 37, 38, 39, 40, 41, 42, 43, 44, 45, 46, 47, 48, 49, 50, 51, 52, 53, 54, 55, 56, 57, 75, 76, 77, 78, 79, 80] (by decide +kernel) (by decide +kernel)
set_option maxRecDepth 20000 in
theorem gX11_copy_X10_become : GoodIn wsX11_copy (wsV RX11 223 RX10 yX10_become wsX10_become) := goodIn_app (goodIn_of _ (by decide +kernel)) ggX11_copy_X10_become
set_option maxRecDepth 20000 in
theorem ggX11_copy_X10_size : GoodIn wsX11_copy wsX10_size := goodIn_r _ [61, 24, 29, 62, 42, 43, 34, 44, 40, 75, 76, 77, 78, 79, 80] (by decide +kernel) (by decide +kernel)
set_option maxRecDepth 20000 in
theorem gX11_copy_X10_size : GoodIn wsX11_copy (wsV RX11 189 RX10 yX10_size wsX10_size) := goodIn_app (goodIn_of _ (by decide +kernel)) ggX11_copy_X10_size
theorem dX11_copy_0 : decode cX11_copy 0 = .ok (.aload_n 0, 1) := by decide +kernel
theorem dX11_copy_1 : decode cX11_copy 1 = .ok (.iload_n 1, 1) := by decide +kernel
theorem dX11_copy_2 : decode cX11_copy 2 = .ok (.invokevirtual 192, 3) := by decide +kernel
theorem dX11_copy_5 : decode cX11_copy 5 = .ok (.astore_n 3, 1) := by decide +kernel
theorem dX11_copy_6 : decode cX11_copy 6 = .ok (.aload_n 0, 1) := by decide +kernel
theorem dX11_copy_7 : decode cX11_copy 7 = .ok (.iload_n 2, 1) := by decide +kernel
theorem dX11_copy_8 : decode cX11_copy 8 = .ok (.invokevirtual 185, 3) := by decide +kernel
theorem dX11_copy_11 : decode cX11_copy 11 = .ok (.aload_n 3, 1) := by decide +kernel
theorem dX11_copy_12 : decode cX11_copy 12 = .ok (.invokevirtual 223, 3) := by decide +kernel
theorem dX11_copy_15 : decode cX11_copy 15 = .ok (.aload_n 3, 1) := by decide +kernel
theorem dX11_copy_16 : decode cX11_copy 16 = .ok (.invokevirtual 189, 3) := by decide +kernel
theorem dX11_copy_19 : decode cX11_copy 19 = .ok (.ireturn, 1) := by decide +kernel
set_option maxRecDepth 20000 in
theorem ggX11_isSound_X11_placeOnShelf : GoodIn wsX11_isSound wsX11_placeOnShelf := goodIn_ca (goodIn_r _ [5, 6, 7, 8, 9, 10, 11, 12, 13, 14, 79, 80, 81, 82, 83, 84, 85, 86, 87, 88, 89, 90] (by decide +kernel) (by decide +kernel)) (goodIn_sub (fun _ h => List.mem_cons_of_mem _ (List.mem_append_right _ h)) (by decide +kernel))
set_option maxRecDepth 20000 in
theorem gX11_isSound_X11_placeOnShelf : GoodIn wsX11_isSound (wsV RX11 185 RX11 yX11_placeOnShelf wsX11_placeOnShelf) := goodIn_app (goodIn_of _ (by decide +kernel)) ggX11_isSound_X11_placeOnShelf
set_option maxRecDepth 20000 in
theorem ggX11_isSound_X10_isWhole : GoodIn wsX11_isSound wsX10_isWhole := goodIn_r _ [19, 20, 21, 22, 23, 24, 18, 25, 26, 27, 28, 29, 30, 31, 32, 33, 34, 35, 36, 37, 38, 39, 40, 41, 42, 43, 44, 45, 46, 47, 48, 49, 50, 51, 52, 53, 54, 55, 56, 57, 58, 59, 60, 61, 62, 63, 4, 64, 65, 66, 67, 68, 69, 70, 71, 72, 73, 74, 75, 76, 77, 78, 91, 92, 93, 94, 95, 96, 97] (by decide +kernel) (by decide +kernel)
set_option maxRecDepth 20000 in
theorem gX11_isSound_X10_isWhole : GoodIn wsX11_isSound (wsV RX11 227 RX10 yX10_isWhole wsX10_isWhole) := goodIn_app (goodIn_of _ (by decide +kernel)) ggX11_isSound_X10_isWhole
theorem dX11_isSound_0 : decode cX11_isSound 0 = .ok (.aload_n 0, 1) := by decide +kernel
theorem dX11_isSound_1 : decode cX11_isSound 1 = .ok (.iload_n 1, 1) := by decide +kernel
theorem dX11_isSound_2 : decode cX11_isSound 2 = .ok (.invokevirtual 185, 3) := by decide +kernel
theorem dX11_isSound_5 : decode cX11_isSound 5 = .ok (.invokevirtual 227, 3) := by decide +kernel
theorem dX11_isSound_8 : decode cX11_isSound 8 = .ok (.ireturn, 1) := by decide +kernel
set_option maxRecDepth 20000 in
theorem ggX11_leader_X9_survey : GoodIn wsX11_leader wsX9_survey := goodIn_r _ [6, 7, 8, 9, 10, 11, 12, 13, 14, 15, 16, 17, 18, 19, 20, 21, 22, 23, 24, 25, 26, 27, 28, 29, 30, 31, 32, 33, 34, 35, 36, 37, 38, 39, 40, 41, 42, 43, 44, 45, 46, 47, 48, 49, 50, 51, 52, 53, 54, 55, 56, 57, 58, 59, 60, 61, 62, 63, 64, 65, 66, 67, 68, 69, 70, 71, 72, 73, 74, 75, 76, 77, 78, 79, 5, 80, 81, 82, 83, 84, 85, 86, 87, 88, 89, 95, 96, 97, 98, 99, 100, 101, 102, 103, 104, 105, 106, 107, 108] (by decide +kernel) (by decide +kernel)
set_option maxRecDepth 20000 in
theorem gX11_leader_X9_survey : GoodIn wsX11_leader (wsV RX11 230 RX9 yX9_survey wsX9_survey) := goodIn_app (goodIn_of _ (by decide +kernel)) ggX11_leader_X9_survey
theorem dX11_leader_0 : decode cX11_leader 0 = .ok (.aload_n 0, 1) := by decide +kernel
theorem dX11_leader_1 : decode cX11_leader 1 = .ok (.getfield 33, 3) := by decide +kernel
theorem dX11_leader_4 : decode cX11_leader 4 = .ok (.invokevirtual 230, 3) := by decide +kernel
theorem dX11_leader_7 : decode cX11_leader 7 = .ok (.aload_n 0, 1) := by decide +kernel
theorem dX11_leader_8 : decode cX11_leader 8 = .ok (.getfield 33, 3) := by decide +kernel
theorem dX11_leader_11 : decode cX11_leader 11 = .ok (.getfield 233, 3) := by decide +kernel
theorem dX11_leader_14 : decode cX11_leader 14 = .ok (.ireturn, 1) := by decide +kernel
set_option maxRecDepth 20000 in
theorem ggX11_present_X9_survey : GoodIn wsX11_present wsX9_survey := goodIn_r _ [6, 7, 8, 9, 10, 11, 12, 13, 14, 15, 16, 17, 18, 19, 20, 21, 22, 23, 24, 25, 26, 27, 28, 29, 30, 31, 32, 33, 34, 35, 36, 37, 38, 39, 40, 41, 42, 43, 44, 45, 46, 47, 48, 49, 50, 51, 52, 53, 54, 55, 56, 57, 58, 59, 60, 61, 62, 63, 64, 65, 66, 67, 68, 69, 70, 71, 72, 73, 74, 75, 76, 77, 78, 79, 5, 80, 81, 82, 83, 84, 85, 86, 87, 88, 89, 95, 96, 97, 98, 99, 100, 101, 102, 103, 104, 105, 106, 107, 108] (by decide +kernel) (by decide +kernel)
set_option maxRecDepth 20000 in
theorem gX11_present_X9_survey : GoodIn wsX11_present (wsV RX11 230 RX9 yX9_survey wsX9_survey) := goodIn_app (goodIn_of _ (by decide +kernel)) ggX11_present_X9_survey
theorem dX11_present_0 : decode cX11_present 0 = .ok (.aload_n 0, 1) := by decide +kernel
theorem dX11_present_1 : decode cX11_present 1 = .ok (.getfield 33, 3) := by decide +kernel
theorem dX11_present_4 : decode cX11_present 4 = .ok (.invokevirtual 230, 3) := by decide +kernel
theorem dX11_present_7 : decode cX11_present 7 = .ok (.aload_n 0, 1) := by decide +kernel
theorem dX11_present_8 : decode cX11_present 8 = .ok (.getfield 33, 3) := by decide +kernel
theorem dX11_present_11 : decode cX11_present 11 = .ok (.getfield 236, 3) := by decide +kernel
theorem dX11_present_14 : decode cX11_present 14 = .ok (.ireturn, 1) := by decide +kernel
set_option maxRecDepth 20000 in
theorem ggX11_numberOf_X11_placeOnShelf : GoodIn wsX11_numberOf wsX11_placeOnShelf := goodIn_ca (goodIn_r _ [6, 7, 8, 1, 9, 10, 11, 12, 13, 14, 101, 102, 103, 104, 105, 106, 107, 108, 109, 110, 111, 112] (by decide +kernel) (by decide +kernel)) (goodIn_sub (fun _ h => List.mem_cons_of_mem _ (List.mem_append_right _ h)) (by decide +kernel))
set_option maxRecDepth 20000 in
theorem gX11_numberOf_X11_placeOnShelf : GoodIn wsX11_numberOf (wsV RX11 185 RX11 yX11_placeOnShelf wsX11_placeOnShelf) := goodIn_app (goodIn_of _ (by decide +kernel)) ggX11_numberOf_X11_placeOnShelf
set_option maxRecDepth 20000 in
theorem ggX11_numberOf_X9_survey : GoodIn wsX11_numberOf wsX9_survey := goodIn_r _ [18, 19, 20, 21, 22, 14, 23, 24, 25, 26, 27, 28, 29, 30, 31, 32, 33, 34, 35, 36, 37, 38, 39, 40, 41, 42, 43, 44, 45, 46, 47, 48, 49, 50, 51, 52, 53, 54, 55, 56, 57, 58, 59, 60, 61, 62, 63, 64, 65, 66, 67, 68, 69, 70, 71, 5, 72, 73, 74, 75, 76, 77, 78, 79, 80, 81, 82, 83, 84, 85, 86, 87, 88, 89, 12, 90, 91, 10, 11, 13, 92, 93, 94, 95, 96, 106, 107, 108, 109, 110, 111, 112, 113, 114, 115, 116, 117, 118, 119] (by decide +kernel) (by decide +kernel)
set_option maxRecDepth 20000 in
theorem gX11_numberOf_X9_survey : GoodIn wsX11_numberOf (wsV RX11 230 RX9 yX9_survey wsX9_survey) := goodIn_app (goodIn_of _ (by decide +kernel)) ggX11_numberOf_X9_survey
set_option maxRecDepth 20000 in
theorem ggX11_numberOf_X9_memberNumber : GoodIn wsX11_numberOf wsX9_memberNumber := goodIn_r _ [100, 21, 106, 107, 108, 109, 110, 111, 112] (by decide +kernel) (by decide +kernel)
set_option maxRecDepth 20000 in
theorem gX11_numberOf_X9_memberNumber : GoodIn wsX11_numberOf (wsV RX11 239 RX9 yX9_memberNumber wsX9_memberNumber) := goodIn_app (goodIn_of _ (by decide +kernel)) ggX11_numberOf_X9_memberNumber
theorem dX11_numberOf_0 : decode cX11_numberOf 0 = .ok (.aload_n 0, 1) := by decide +kernel
theorem dX11_numberOf_1 : decode cX11_numberOf 1 = .ok (.iload_n 1, 1) := by decide +kernel
theorem dX11_numberOf_2 : decode cX11_numberOf 2 = .ok (.invokevirtual 185, 3) := by decide +kernel
theorem dX11_numberOf_5 : decode cX11_numberOf 5 = .ok (.pop, 1) := by decide +kernel
theorem dX11_numberOf_6 : decode cX11_numberOf 6 = .ok (.aload_n 0, 1) := by decide +kernel
theorem dX11_numberOf_7 : decode cX11_numberOf 7 = .ok (.getfield 33, 3) := by decide +kernel
theorem dX11_numberOf_10 : decode cX11_numberOf 10 = .ok (.invokevirtual 230, 3) := by decide +kernel
theorem dX11_numberOf_13 : decode cX11_numberOf 13 = .ok (.aload_n 0, 1) := by decide +kernel
theorem dX11_numberOf_14 : decode cX11_numberOf 14 = .ok (.getfield 33, 3) := by decide +kernel
theorem dX11_numberOf_17 : decode cX11_numberOf 17 = .ok (.iload_n 1, 1) := by decide +kernel
theorem dX11_numberOf_18 : decode cX11_numberOf 18 = .ok (.invokevirtual 239, 3) := by decide +kernel
theorem dX11_numberOf_21 : decode cX11_numberOf 21 = .ok (.ireturn, 1) := by decide +kernel
set_option maxRecDepth 20000 in
theorem ggX11_spare_X9_survey : GoodIn wsX11_spare wsX9_survey := goodIn_r _ [6, 7, 8, 9, 10, 11, 12, 13, 14, 15, 16, 17, 18, 19, 20, 21, 22, 23, 24, 25, 26, 27, 28, 29, 30, 31, 32, 33, 34, 35, 36, 37, 38, 39, 40, 41, 42, 43, 44, 45, 46, 47, 48, 49, 50, 51, 52, 53, 54, 55, 56, 57, 58, 59, 60, 61, 62, 63, 64, 65, 66, 67, 68, 69, 70, 71, 72, 73, 74, 75, 76, 77, 78, 79, 5, 80, 81, 82, 83, 84, 85, 86, 87, 88, 89, 104, 105, 106, 107, 108, 109, 110, 111, 112, 113, 114, 115, 116, 117] (by decide +kernel) (by decide +kernel)
set_option maxRecDepth 20000 in
theorem gX11_spare_X9_survey : GoodIn wsX11_spare (wsV RX11 230 RX9 yX9_survey wsX9_survey) := goodIn_app (goodIn_of _ (by decide +kernel)) ggX11_spare_X9_survey
set_option maxRecDepth 20000 in
theorem ggX11_spare_X9_surplus : GoodIn wsX11_spare wsX9_surplus := goodIn_r _ [93, 7, 8, 94, 95, 96, 97, 81, 82, 83, 5, 84, 11, 98, 36, 37, 15, 38, 18, 30, 31, 32, 27, 33, 29, 34, 104, 105, 106, 107, 108, 109, 110, 111, 112, 113, 114, 115, 116] (by decide +kernel) (by decide +kernel)
set_option maxRecDepth 20000 in
theorem gX11_spare_X9_surplus : GoodIn wsX11_spare (wsV RX11 242 RX9 yX9_surplus wsX9_surplus) := goodIn_app (goodIn_of _ (by decide +kernel)) ggX11_spare_X9_surplus
theorem dX11_spare_0 : decode cX11_spare 0 = .ok (.aload_n 0, 1) := by decide +kernel
theorem dX11_spare_1 : decode cX11_spare 1 = .ok (.getfield 33, 3) := by decide +kernel
theorem dX11_spare_4 : decode cX11_spare 4 = .ok (.invokevirtual 230, 3) := by decide +kernel
theorem dX11_spare_7 : decode cX11_spare 7 = .ok (.aload_n 0, 1) := by decide +kernel
theorem dX11_spare_8 : decode cX11_spare 8 = .ok (.getfield 33, 3) := by decide +kernel
theorem dX11_spare_11 : decode cX11_spare 11 = .ok (.invokevirtual 242, 3) := by decide +kernel
theorem dX11_spare_14 : decode cX11_spare 14 = .ok (.ireturn, 1) := by decide +kernel
set_option maxRecDepth 20000 in
theorem ggX11_repair_X11_requireOpen : GoodIn wsX11_repair wsX11_requireOpen := goodIn_ca (goodIn_r _ [7, 8, 9, 2, 129, 130, 131, 132, 133, 134, 135, 136, 137, 138, 139, 140, 141] (by decide +kernel) (by decide +kernel)) (goodIn_sub (fun _ h => List.mem_cons_of_mem _ (List.mem_append_right _ h)) (by decide +kernel))
set_option maxRecDepth 20000 in
theorem gX11_repair_X11_requireOpen : GoodIn wsX11_repair (wsV RX11 245 RX11 yX11_requireOpen wsX11_requireOpen) := goodIn_app (goodIn_of _ (by decide +kernel)) ggX11_repair_X11_requireOpen
set_option maxRecDepth 20000 in
theorem ggX11_repair_X9_fillWith : GoodIn wsX11_repair wsX9_fillWith := goodIn_r _ [14, 15, 16, 17, 18, 19, 13, 20, 21, 22, 23, 24, 25, 26, 27, 28, 29, 30, 31, 32, 33, 34, 35, 36, 6, 37, 38, 39, 40, 41, 42, 43, 44, 45, 46, 47, 48, 49, 50, 51, 52, 53, 54, 55, 56, 57, 58, 59, 60, 61, 62, 63, 64, 65, 66, 67, 68, 69, 70, 71, 72, 73, 74, 75, 76, 77, 78, 79, 80, 81, 82, 83, 84, 85, 86, 87, 88, 89, 90, 91, 92, 93, 94, 95, 96, 97, 98, 99, 100, 101, 102, 103, 104, 105, 106, 107, 108, 109, 110, 111, 112, 113, 114, 115, 116, 117, 118, 119, 120, 121, 122, 123, 124, 125, 126, 127, 128, 142, 143, 144, 145, 146, 147, 148, 149, 150, 151, 152, 153, 154, 155, 156, 157] (by decide +kernel) (by decide +kernel)
set_option maxRecDepth 20000 in
theorem gX11_repair_X9_fillWith : GoodIn wsX11_repair (wsV RX11 178 RX9 yX9_fillWith wsX9_fillWith) := goodIn_app (goodIn_of _ (by decide +kernel)) ggX11_repair_X9_fillWith
theorem dX11_repair_0 : decode cX11_repair 0 = .ok (.aload_n 0, 1) := by decide +kernel
theorem dX11_repair_1 : decode cX11_repair 1 = .ok (.invokevirtual 245, 3) := by decide +kernel
theorem dX11_repair_4 : decode cX11_repair 4 = .ok (.aload_n 0, 1) := by decide +kernel
theorem dX11_repair_5 : decode cX11_repair 5 = .ok (.getfield 33, 3) := by decide +kernel
theorem dX11_repair_8 : decode cX11_repair 8 = .ok (.aload_n 0, 1) := by decide +kernel
theorem dX11_repair_9 : decode cX11_repair 9 = .ok (.getfield 49, 3) := by decide +kernel
theorem dX11_repair_12 : decode cX11_repair 12 = .ok (.getfield 248, 3) := by decide +kernel
theorem dX11_repair_15 : decode cX11_repair 15 = .ok (.aload_n 0, 1) := by decide +kernel
theorem dX11_repair_16 : decode cX11_repair 16 = .ok (.getfield 49, 3) := by decide +kernel
theorem dX11_repair_19 : decode cX11_repair 19 = .ok (.getfield 251, 3) := by decide +kernel
theorem dX11_repair_22 : decode cX11_repair 22 = .ok (.aload_n 0, 1) := by decide +kernel
theorem dX11_repair_23 : decode cX11_repair 23 = .ok (.getfield 49, 3) := by decide +kernel
theorem dX11_repair_26 : decode cX11_repair 26 = .ok (.getfield 254, 3) := by decide +kernel
theorem dX11_repair_29 : decode cX11_repair 29 = .ok (.invokevirtual 178, 3) := by decide +kernel
theorem dX11_repair_32 : decode cX11_repair 32 = .ok (.ireturn, 1) := by decide +kernel
set_option maxRecDepth 20000 in
theorem ggX11_open_X7_close : GoodIn wsX11_open wsX7_close := goodIn_r _ [8, 9, 288, 289, 290, 291, 292, 293, 294, 295] (by decide +kernel) (by decide +kernel)
set_option maxRecDepth 20000 in
theorem gX11_open_X7_close : GoodIn wsX11_open (wsV RX11 171 RX7 yX7_close wsX7_close) := goodIn_app (goodIn_of _ (by decide +kernel)) ggX11_open_X7_close
set_option maxRecDepth 20000 in
theorem ggX11_open_X9_survey : GoodIn wsX11_open wsX9_survey := goodIn_r _ [14, 15, 16, 17, 18, 19, 20, 21, 22, 23, 24, 25, 26, 27, 28, 29, 30, 31, 32, 33, 34, 35, 36, 37, 38, 39, 40, 41, 42, 43, 44, 45, 46, 47, 48, 49, 50, 51, 52, 53, 54, 55, 56, 57, 58, 59, 60, 61, 62, 63, 64, 65, 66, 67, 68, 69, 70, 71, 72, 73, 74, 75, 76, 77, 78, 79, 80, 81, 82, 83, 84, 85, 86, 87, 13, 88, 89, 90, 91, 92, 93, 94, 95, 96, 97, 281, 282, 283, 284, 285, 286, 287, 296, 297, 298, 299, 300, 301, 302] (by decide +kernel) (by decide +kernel)
set_option maxRecDepth 20000 in
theorem gX11_open_X9_survey : GoodIn wsX11_open (wsV RX11 230 RX9 yX9_survey wsX9_survey) := goodIn_app (goodIn_of _ (by decide +kernel)) ggX11_open_X9_survey
set_option maxRecDepth 20000 in
theorem ggX11_open_X9_at : GoodIn wsX11_open wsX9_at := goodIn_r _ [92, 19, 281, 282, 283, 284, 285, 286, 287] (by decide +kernel) (by decide +kernel)
set_option maxRecDepth 20000 in
theorem gX11_open_X9_at : GoodIn wsX11_open (wsV RX11 257 RX9 yX9_at wsX9_at) := goodIn_app (goodIn_of _ (by decide +kernel)) ggX11_open_X9_at
set_option maxRecDepth 20000 in
theorem ggX11_open_X9_surplus : GoodIn wsX11_open wsX9_surplus := goodIn_r _ [102, 15, 16, 103, 104, 105, 106, 89, 90, 91, 13, 92, 19, 107, 44, 45, 23, 46, 26, 38, 39, 40, 35, 41, 37, 42, 281, 282, 283, 284, 285, 286, 287, 296, 297, 298, 299, 300, 301] (by decide +kernel) (by decide +kernel)
set_option maxRecDepth 20000 in
theorem gX11_open_X9_surplus : GoodIn wsX11_open (wsV RX11 242 RX9 yX9_surplus wsX9_surplus) := goodIn_app (goodIn_of _ (by decide +kernel)) ggX11_open_X9_surplus
set_option maxRecDepth 20000 in
theorem ggX11_open_X8_recover : GoodIn wsX11_open wsX8_recover := goodIn_r _ [112, 113, 114, 105, 115, 116, 44, 45, 23, 46, 26, 38, 39, 40, 35, 41, 37, 42, 117, 56, 57, 58, 59, 60, 61, 62, 63, 118, 119, 120, 111, 121, 122, 123, 124, 125, 13, 126, 18, 89, 90, 91, 92, 19, 127, 128, 129, 130, 131, 132, 133, 134, 135, 136, 137, 138, 139, 140, 141, 142, 143, 144, 145, 146, 147, 148, 149, 150, 151, 152, 153, 154, 155, 156, 157, 158, 159, 160, 161, 162, 163, 164, 165, 166, 167, 168, 169, 170, 171, 172, 173, 174, 175, 176, 177, 178, 179, 180, 181, 182, 183, 184, 185, 186, 187, 188, 189, 190, 191, 192, 193, 194, 195, 196, 197, 33, 34, 36, 198, 65, 66, 67, 199, 200, 201, 202, 296, 297, 298, 299, 300, 301, 303, 304, 305, 281, 282, 283, 284, 285, 286, 287, 306, 307] (by decide +kernel) (by decide +kernel)
set_option maxRecDepth 20000 in
theorem gX11_open_X8_recover : GoodIn wsX11_open (wsV RX11 260 RX8 yX8_recover wsX8_recover) := goodIn_app (goodIn_of _ (by decide +kernel)) ggX11_open_X8_recover
set_option maxRecDepth 20000 in
theorem ggX11_open_X10_dataTold : GoodIn wsX11_open wsX10_dataTold := goodIn_r _ [46, 26, 38, 39, 40, 35, 41, 37, 42, 296, 297, 298, 299, 300, 301] (by decide +kernel) (by decide +kernel)
set_option maxRecDepth 20000 in
theorem gX11_open_X10_dataTold : GoodIn wsX11_open (wsV RX11 264 RX10 yX10_dataTold wsX10_dataTold) := goodIn_app (goodIn_of _ (by decide +kernel)) ggX11_open_X10_dataTold
set_option maxRecDepth 20000 in
theorem ggX11_open_X10_parityTold : GoodIn wsX11_open wsX10_parityTold := goodIn_r _ [50, 26, 38, 39, 40, 35, 41, 37, 42, 296, 297, 298, 299, 300, 301] (by decide +kernel) (by decide +kernel)
set_option maxRecDepth 20000 in
theorem gX11_open_X10_parityTold : GoodIn wsX11_open (wsV RX11 267 RX10 yX10_parityTold wsX10_parityTold) := goodIn_app (goodIn_of _ (by decide +kernel)) ggX11_open_X10_parityTold
set_option maxRecDepth 20000 in
theorem ggX11_open_X7_begin : GoodIn wsX11_open wsX7_begin := goodIn_r _ [208, 9, 209, 210, 211, 212, 213, 214, 215, 7, 216, 217, 218, 219, 220, 221, 222, 223, 33, 34, 35, 36, 37, 224, 60, 61, 62, 63, 39, 40, 41, 42, 225, 226, 227, 228, 80, 229, 82, 230, 78, 79, 81, 83, 84, 231, 232, 233, 234, 235, 236, 114, 105, 115, 237, 238, 239, 240, 241, 242, 243, 244, 245, 246, 247, 248, 249, 250, 251, 252, 288, 289, 290, 291, 292, 293, 294, 295, 300, 301, 302, 308, 309, 310, 311, 312] (by decide +kernel) (by decide +kernel)
set_option maxRecDepth 20000 in
theorem gX11_open_X7_begin : GoodIn wsX11_open (wsV RX11 270 RX7 yX7_begin wsX7_begin) := goodIn_app (goodIn_of _ (by decide +kernel)) ggX11_open_X7_begin
set_option maxRecDepth 20000 in
theorem ggX11_open_X7_judgeFiles : GoodIn wsX11_open wsX7_judgeFiles := goodIn_r _ [256, 212, 237, 238, 239, 7, 240, 235, 257, 258, 259, 260, 217, 218, 245, 246, 247, 248, 223, 33, 34, 35, 36, 37, 225, 39, 40, 41, 42, 249, 250, 251, 252, 224, 60, 61, 62, 63, 261, 262, 263, 264, 265, 266, 267, 268, 269, 134, 135, 136, 270, 271, 272, 138, 139, 140, 141, 142, 143, 144, 273, 190, 191, 192, 274, 275, 226, 227, 228, 80, 229, 82, 230, 78, 79, 81, 83, 84, 288, 289, 290, 291, 292, 293, 294, 295, 308, 309, 310, 311, 312, 300, 301, 302] (by decide +kernel) (by decide +kernel)
set_option maxRecDepth 20000 in
theorem gX11_open_X7_judgeFiles : GoodIn wsX11_open (wsV RX11 273 RX7 yX7_judgeFiles wsX7_judgeFiles) := goodIn_app (goodIn_of _ (by decide +kernel)) ggX11_open_X7_judgeFiles
theorem dX11_open_0 : decode cX11_open 0 = .ok (.aload_n 0, 1) := by decide +kernel
theorem dX11_open_1 : decode cX11_open 1 = .ok (.getfield 49, 3) := by decide +kernel
theorem dX11_open_4 : decode cX11_open 4 = .ok (.invokevirtual 171, 3) := by decide +kernel
theorem dX11_open_7 : decode cX11_open 7 = .ok (.aload_n 0, 1) := by decide +kernel
theorem dX11_open_8 : decode cX11_open 8 = .ok (.getfield 33, 3) := by decide +kernel
theorem dX11_open_11 : decode cX11_open 11 = .ok (.invokevirtual 230, 3) := by decide +kernel
theorem dX11_open_14 : decode cX11_open 14 = .ok (.aload_n 0, 1) := by decide +kernel
theorem dX11_open_15 : decode cX11_open 15 = .ok (.getfield 33, 3) := by decide +kernel
theorem dX11_open_18 : decode cX11_open 18 = .ok (.aload_n 0, 1) := by decide +kernel
theorem dX11_open_19 : decode cX11_open 19 = .ok (.getfield 33, 3) := by decide +kernel
theorem dX11_open_22 : decode cX11_open 22 = .ok (.getfield 233, 3) := by decide +kernel
theorem dX11_open_25 : decode cX11_open 25 = .ok (.invokevirtual 257, 3) := by decide +kernel
theorem dX11_open_28 : decode cX11_open 28 = .ok (.astore_n 1, 1) := by decide +kernel
theorem dX11_open_29 : decode cX11_open 29 = .ok (.aload_n 1, 1) := by decide +kernel
theorem dX11_open_30 : decode cX11_open 30 = .ok (.ifnull 13, 3) := by decide +kernel
theorem dX11_open_33 : decode cX11_open 33 = .ok (.aload_n 0, 1) := by decide +kernel
theorem dX11_open_34 : decode cX11_open 34 = .ok (.getfield 33, 3) := by decide +kernel
theorem dX11_open_37 : decode cX11_open 37 = .ok (.invokevirtual 242, 3) := by decide +kernel
theorem dX11_open_40 : decode cX11_open 40 = .ok (.ifCond .ge 5, 3) := by decide +kernel
theorem dX11_open_43 : decode cX11_open 43 = .ok (.iconst (-1), 1) := by decide +kernel
theorem dX11_open_44 : decode cX11_open 44 = .ok (.ireturn, 1) := by decide +kernel
theorem dX11_open_45 : decode cX11_open 45 = .ok (.aload_n 0, 1) := by decide +kernel
theorem dX11_open_46 : decode cX11_open 46 = .ok (.getfield 42, 3) := by decide +kernel
theorem dX11_open_49 : decode cX11_open 49 = .ok (.aload_n 0, 1) := by decide +kernel
theorem dX11_open_50 : decode cX11_open 50 = .ok (.getfield 33, 3) := by decide +kernel
theorem dX11_open_53 : decode cX11_open 53 = .ok (.aload_n 1, 1) := by decide +kernel
theorem dX11_open_54 : decode cX11_open 54 = .ok (.aload_n 0, 1) := by decide +kernel
theorem dX11_open_55 : decode cX11_open 55 = .ok (.getfield 49, 3) := by decide +kernel
theorem dX11_open_58 : decode cX11_open 58 = .ok (.getfield 248, 3) := by decide +kernel
theorem dX11_open_61 : decode cX11_open 61 = .ok (.invokevirtual 260, 3) := by decide +kernel
theorem dX11_open_64 : decode cX11_open 64 = .ok (.istore_n 2, 1) := by decide +kernel
theorem dX11_open_65 : decode cX11_open 65 = .ok (.aload_n 0, 1) := by decide +kernel
theorem dX11_open_66 : decode cX11_open 66 = .ok (.getfield 49, 3) := by decide +kernel
theorem dX11_open_69 : decode cX11_open 69 = .ok (.aload_n 1, 1) := by decide +kernel
theorem dX11_open_70 : decode cX11_open 70 = .ok (.invokevirtual 264, 3) := by decide +kernel
theorem dX11_open_73 : decode cX11_open 73 = .ok (.aload_n 1, 1) := by decide +kernel
theorem dX11_open_74 : decode cX11_open 74 = .ok (.invokevirtual 267, 3) := by decide +kernel
theorem dX11_open_77 : decode cX11_open 77 = .ok (.invokevirtual 270, 3) := by decide +kernel
theorem dX11_open_80 : decode cX11_open 80 = .ok (.aload_n 0, 1) := by decide +kernel
theorem dX11_open_81 : decode cX11_open 81 = .ok (.getfield 49, 3) := by decide +kernel
theorem dX11_open_84 : decode cX11_open 84 = .ok (.invokevirtual 273, 3) := by decide +kernel
theorem dX11_open_87 : decode cX11_open 87 = .ok (.iload_n 2, 1) := by decide +kernel
theorem dX11_open_88 : decode cX11_open 88 = .ok (.ireturn, 1) := by decide +kernel
set_option maxRecDepth 20000 in
theorem ggX11_opened_X11_requireOpen : GoodIn wsX11_opened wsX11_requireOpen := goodIn_ca (goodIn_r _ [6, 7, 8, 1, 15, 16, 17, 18, 19, 20, 21, 22, 23, 24, 25, 26, 27] (by decide +kernel) (by decide +kernel)) (goodIn_sub (fun _ h => List.mem_cons_of_mem _ (List.mem_append_right _ h)) (by decide +kernel))
set_option maxRecDepth 20000 in
theorem gX11_opened_X11_requireOpen : GoodIn wsX11_opened (wsV RX11 245 RX11 yX11_requireOpen wsX11_requireOpen) := goodIn_app (goodIn_of _ (by decide +kernel)) ggX11_opened_X11_requireOpen
set_option maxRecDepth 20000 in
theorem ggX11_opened_X0_size : GoodIn wsX11_opened wsX0_size := goodIn_r _ [13, 14, 28, 29] (by decide +kernel) (by decide +kernel)
set_option maxRecDepth 20000 in
theorem gX11_opened_X0_size : GoodIn wsX11_opened (wsV RX11 93 RX0 yX0_size wsX0_size) := goodIn_app (goodIn_of _ (by decide +kernel)) ggX11_opened_X0_size
theorem dX11_opened_0 : decode cX11_opened 0 = .ok (.aload_n 0, 1) := by decide +kernel
theorem dX11_opened_1 : decode cX11_opened 1 = .ok (.invokevirtual 245, 3) := by decide +kernel
theorem dX11_opened_4 : decode cX11_opened 4 = .ok (.aload_n 0, 1) := by decide +kernel
theorem dX11_opened_5 : decode cX11_opened 5 = .ok (.getfield 49, 3) := by decide +kernel
theorem dX11_opened_8 : decode cX11_opened 8 = .ok (.getfield 248, 3) := by decide +kernel
theorem dX11_opened_11 : decode cX11_opened 11 = .ok (.invokevirtual 93, 3) := by decide +kernel
theorem dX11_opened_14 : decode cX11_opened 14 = .ok (.ireturn, 1) := by decide +kernel
set_option maxRecDepth 20000 in
theorem ggX11_streamAt_X11_requireOpen : GoodIn wsX11_streamAt wsX11_requireOpen := goodIn_ca (goodIn_r _ [6, 7, 8, 1, 25, 26, 27, 28, 29, 30, 31, 32, 33, 34, 35, 36, 37] (by decide +kernel) (by decide +kernel)) (goodIn_sub (fun _ h => List.mem_cons_of_mem _ (List.mem_append_left _ (List.mem_append_right _ h))) (by decide +kernel))
set_option maxRecDepth 20000 in
theorem gX11_streamAt_X11_requireOpen : GoodIn wsX11_streamAt (wsV RX11 245 RX11 yX11_requireOpen wsX11_requireOpen) := goodIn_app (goodIn_of _ (by decide +kernel)) ggX11_streamAt_X11_requireOpen
set_option maxRecDepth 20000 in
theorem ggX11_streamAt_X11_byteIn : GoodIn wsX11_streamAt wsX11_byteIn := goodIn_ca (goodIn_r _ [11, 12, 13, 14, 15, 16, 17, 18, 19, 20, 21, 22, 23, 24, 38, 39] (by decide +kernel) (by decide +kernel)) (goodIn_sub (fun _ h => List.mem_cons_of_mem _ (List.mem_append_right _ h)) (by decide +kernel))
set_option maxRecDepth 20000 in
theorem gX11_streamAt_X11_byteIn : GoodIn wsX11_streamAt (va_wsS RX11 156 yX11_byteIn wsX11_byteIn) := goodIn_app (goodIn_of _ (by decide +kernel)) ggX11_streamAt_X11_byteIn
theorem dX11_streamAt_0 : decode cX11_streamAt 0 = .ok (.aload_n 0, 1) := by decide +kernel
theorem dX11_streamAt_1 : decode cX11_streamAt 1 = .ok (.invokevirtual 245, 3) := by decide +kernel
theorem dX11_streamAt_4 : decode cX11_streamAt 4 = .ok (.aload_n 0, 1) := by decide +kernel
theorem dX11_streamAt_5 : decode cX11_streamAt 5 = .ok (.getfield 49, 3) := by decide +kernel
theorem dX11_streamAt_8 : decode cX11_streamAt 8 = .ok (.getfield 248, 3) := by decide +kernel
theorem dX11_streamAt_11 : decode cX11_streamAt 11 = .ok (.iload_n 1, 1) := by decide +kernel
theorem dX11_streamAt_12 : decode cX11_streamAt 12 = .ok (.invokestatic 156, 3) := by decide +kernel
theorem dX11_streamAt_15 : decode cX11_streamAt 15 = .ok (.ireturn, 1) := by decide +kernel
set_option maxRecDepth 20000 in
theorem ggX11_found_X11_requireOpen : GoodIn wsX11_found wsX11_requireOpen := goodIn_ca (goodIn_r _ [6, 7, 8, 1, 9, 10, 11, 12, 13, 14, 15, 16, 17, 18, 19, 20, 21] (by decide +kernel) (by decide +kernel)) (goodIn_sub (fun _ h => List.mem_cons_of_mem _ (List.mem_append_right _ h)) (by decide +kernel))
set_option maxRecDepth 20000 in
theorem gX11_found_X11_requireOpen : GoodIn wsX11_found (wsV RX11 245 RX11 yX11_requireOpen wsX11_requireOpen) := goodIn_app (goodIn_of _ (by decide +kernel)) ggX11_found_X11_requireOpen
theorem dX11_found_0 : decode cX11_found 0 = .ok (.aload_n 0, 1) := by decide +kernel
theorem dX11_found_1 : decode cX11_found 1 = .ok (.invokevirtual 245, 3) := by decide +kernel
theorem dX11_found_4 : decode cX11_found 4 = .ok (.aload_n 0, 1) := by decide +kernel
theorem dX11_found_5 : decode cX11_found 5 = .ok (.getfield 49, 3) := by decide +kernel
theorem dX11_found_8 : decode cX11_found 8 = .ok (.getfield 280, 3) := by decide +kernel
theorem dX11_found_11 : decode cX11_found 11 = .ok (.ireturn, 1) := by decide +kernel
set_option maxRecDepth 20000 in
theorem ggX11_keyFound_X11_readFile : GoodIn wsX11_keyFound wsX11_readFile := goodIn_ca (goodIn_ca (goodIn_r _ [5, 6, 7, 8, 9, 10, 11, 4, 12, 13, 14, 15, 16, 17, 18, 19, 20, 21, 27, 28, 29, 30, 31, 32, 33, 34, 35, 36, 37, 38, 39] (by decide +kernel) (by decide +kernel)) (goodIn_sub (fun _ h => List.mem_cons_of_mem _ (List.mem_append_left _ (List.mem_append_right _ h))) (by decide +kernel))) (goodIn_sub (fun _ h => List.mem_cons_of_mem _ (List.mem_append_right _ h)) (by decide +kernel))
set_option maxRecDepth 20000 in
theorem gX11_keyFound_X11_readFile : GoodIn wsX11_keyFound (wsV RX11 282 RX11 yX11_readFile wsX11_readFile) := goodIn_app (goodIn_of _ (by decide +kernel)) ggX11_keyFound_X11_readFile
theorem dX11_keyFound_0 : decode cX11_keyFound 0 = .ok (.aload_n 0, 1) := by decide +kernel
theorem dX11_keyFound_1 : decode cX11_keyFound 1 = .ok (.iload_n 1, 1) := by decide +kernel
theorem dX11_keyFound_2 : decode cX11_keyFound 2 = .ok (.invokevirtual 282, 3) := by decide +kernel
theorem dX11_keyFound_5 : decode cX11_keyFound 5 = .ok (.getfield 286, 3) := by decide +kernel
theorem dX11_keyFound_8 : decode cX11_keyFound 8 = .ok (.ireturn, 1) := by decide +kernel
set_option maxRecDepth 20000 in
theorem ggX11_placeFound_X11_readFile : GoodIn wsX11_placeFound wsX11_readFile := goodIn_ca (goodIn_ca (goodIn_r _ [5, 6, 7, 8, 9, 10, 11, 4, 12, 13, 14, 15, 16, 17, 18, 19, 20, 21, 27, 28, 29, 30, 31, 32, 33, 34, 35, 36, 37, 38, 39] (by decide +kernel) (by decide +kernel)) (goodIn_sub (fun _ h => List.mem_cons_of_mem _ (List.mem_append_left _ (List.mem_append_right _ h))) (by decide +kernel))) (goodIn_sub (fun _ h => List.mem_cons_of_mem _ (List.mem_append_right _ h)) (by decide +kernel))
set_option maxRecDepth 20000 in
theorem gX11_placeFound_X11_readFile : GoodIn wsX11_placeFound (wsV RX11 282 RX11 yX11_readFile wsX11_readFile) := goodIn_app (goodIn_of _ (by decide +kernel)) ggX11_placeFound_X11_readFile
theorem dX11_placeFound_0 : decode cX11_placeFound 0 = .ok (.aload_n 0, 1) := by decide +kernel
theorem dX11_placeFound_1 : decode cX11_placeFound 1 = .ok (.iload_n 1, 1) := by decide +kernel
theorem dX11_placeFound_2 : decode cX11_placeFound 2 = .ok (.invokevirtual 282, 3) := by decide +kernel
theorem dX11_placeFound_5 : decode cX11_placeFound 5 = .ok (.getfield 289, 3) := by decide +kernel
theorem dX11_placeFound_8 : decode cX11_placeFound 8 = .ok (.ireturn, 1) := by decide +kernel
set_option maxRecDepth 20000 in
theorem ggX11_isGood_X11_readFile : GoodIn wsX11_isGood wsX11_readFile := goodIn_ca (goodIn_ca (goodIn_r _ [5, 6, 7, 8, 9, 10, 11, 4, 12, 13, 14, 15, 16, 17, 18, 19, 20, 21, 27, 28, 29, 30, 31, 32, 33, 34, 35, 36, 37, 38, 39] (by decide +kernel) (by decide +kernel)) (goodIn_sub (fun _ h => List.mem_cons_of_mem _ (List.mem_append_left _ (List.mem_append_right _ h))) (by decide +kernel))) (goodIn_sub (fun _ h => List.mem_cons_of_mem _ (List.mem_append_right _ h)) (by decide +kernel))
set_option maxRecDepth 20000 in
theorem gX11_isGood_X11_readFile : GoodIn wsX11_isGood (wsV RX11 282 RX11 yX11_readFile wsX11_readFile) := goodIn_app (goodIn_of _ (by decide +kernel)) ggX11_isGood_X11_readFile
theorem dX11_isGood_0 : decode cX11_isGood 0 = .ok (.aload_n 0, 1) := by decide +kernel
theorem dX11_isGood_1 : decode cX11_isGood 1 = .ok (.iload_n 1, 1) := by decide +kernel
theorem dX11_isGood_2 : decode cX11_isGood 2 = .ok (.invokevirtual 282, 3) := by decide +kernel
theorem dX11_isGood_5 : decode cX11_isGood 5 = .ok (.getfield 292, 3) := by decide +kernel
theorem dX11_isGood_8 : decode cX11_isGood 8 = .ok (.ireturn, 1) := by decide +kernel
set_option maxRecDepth 20000 in
theorem ggX11_lengthFound_X11_readFile : GoodIn wsX11_lengthFound wsX11_readFile := goodIn_ca (goodIn_ca (goodIn_r _ [5, 6, 7, 8, 9, 10, 11, 4, 12, 13, 14, 15, 16, 17, 18, 19, 20, 21, 35, 36, 37, 38, 39, 40, 41, 42, 43, 44, 45, 46, 47] (by decide +kernel) (by decide +kernel)) (goodIn_sub (fun _ h => List.mem_cons_of_mem _ (List.mem_append_left _ (List.mem_append_right _ h))) (by decide +kernel))) (goodIn_sub (fun _ h => List.mem_cons_of_mem _ (List.mem_append_right _ h)) (by decide +kernel))
set_option maxRecDepth 20000 in
theorem gX11_lengthFound_X11_readFile : GoodIn wsX11_lengthFound (wsV RX11 282 RX11 yX11_readFile wsX11_readFile) := goodIn_app (goodIn_of _ (by decide +kernel)) ggX11_lengthFound_X11_readFile
set_option maxRecDepth 20000 in
theorem ggX11_lengthFound_X5_size : GoodIn wsX11_lengthFound wsX5_size := goodIn_r _ [26, 27, 28, 29, 30, 31, 32, 33, 34, 48, 49, 50, 51, 52, 53, 54] (by decide +kernel) (by decide +kernel)
set_option maxRecDepth 20000 in
theorem gX11_lengthFound_X5_size : GoodIn wsX11_lengthFound (wsV RX11 295 RX5 yX5_size wsX5_size) := goodIn_app (goodIn_of _ (by decide +kernel)) ggX11_lengthFound_X5_size
theorem dX11_lengthFound_0 : decode cX11_lengthFound 0 = .ok (.aload_n 0, 1) := by decide +kernel
theorem dX11_lengthFound_1 : decode cX11_lengthFound 1 = .ok (.iload_n 1, 1) := by decide +kernel
theorem dX11_lengthFound_2 : decode cX11_lengthFound 2 = .ok (.invokevirtual 282, 3) := by decide +kernel
theorem dX11_lengthFound_5 : decode cX11_lengthFound 5 = .ok (.invokevirtual 295, 3) := by decide +kernel
theorem dX11_lengthFound_8 : decode cX11_lengthFound 8 = .ok (.ireturn, 1) := by decide +kernel
set_option maxRecDepth 20000 in
theorem ggX11_byteFound_X11_readFile : GoodIn wsX11_byteFound wsX11_readFile := goodIn_ca (goodIn_ca (goodIn_r _ [7, 1, 2, 8, 9, 10, 11, 6, 12, 13, 14, 15, 16, 17, 18, 19, 20, 21, 41, 42, 43, 44, 45, 46, 47, 48, 49, 50, 51, 52, 53] (by decide +kernel) (by decide +kernel)) (goodIn_sub (fun _ h => List.mem_cons_of_mem _ (List.mem_append_left _ (List.mem_append_right _ h))) (by decide +kernel))) (goodIn_sub (fun _ h => List.mem_cons_of_mem _ (List.mem_append_right _ h)) (by decide +kernel))
set_option maxRecDepth 20000 in
theorem gX11_byteFound_X11_readFile : GoodIn wsX11_byteFound (wsV RX11 282 RX11 yX11_readFile wsX11_readFile) := goodIn_app (goodIn_of _ (by decide +kernel)) ggX11_byteFound_X11_readFile
set_option maxRecDepth 20000 in
theorem ggX11_byteFound_X11_byteIn : GoodIn wsX11_byteFound wsX11_byteIn := goodIn_ca (goodIn_r _ [24, 1, 2, 25, 26, 27, 28, 29, 30, 31, 32, 33, 34, 35, 54, 55] (by decide +kernel) (by decide +kernel)) (goodIn_sub (fun _ h => List.mem_cons_of_mem _ (List.mem_append_left _ (List.mem_append_right _ h))) (by decide +kernel))
set_option maxRecDepth 20000 in
theorem gX11_byteFound_X11_byteIn : GoodIn wsX11_byteFound (va_wsS RX11 156 yX11_byteIn wsX11_byteIn) := goodIn_app (goodIn_of _ (by decide +kernel)) ggX11_byteFound_X11_byteIn
theorem dX11_byteFound_0 : decode cX11_byteFound 0 = .ok (.aload_n 0, 1) := by decide +kernel
theorem dX11_byteFound_1 : decode cX11_byteFound 1 = .ok (.iload_n 1, 1) := by decide +kernel
theorem dX11_byteFound_2 : decode cX11_byteFound 2 = .ok (.invokevirtual 282, 3) := by decide +kernel
theorem dX11_byteFound_5 : decode cX11_byteFound 5 = .ok (.astore_n 3, 1) := by decide +kernel
theorem dX11_byteFound_6 : decode cX11_byteFound 6 = .ok (.aload_n 3, 1) := by decide +kernel
theorem dX11_byteFound_7 : decode cX11_byteFound 7 = .ok (.getfield 292, 3) := by decide +kernel
theorem dX11_byteFound_10 : decode cX11_byteFound 10 = .ok (.ifCond .ne 14, 3) := by decide +kernel
theorem dX11_byteFound_13 : decode cX11_byteFound 13 = .ok (.new 79, 3) := by decide +kernel
theorem dX11_byteFound_16 : decode cX11_byteFound 16 = .ok (.dup, 1) := by decide +kernel
theorem dX11_byteFound_17 : decode cX11_byteFound 17 = .ok (.ldc_w 296, 3) := by decide +kernel
theorem dX11_byteFound_20 : decode cX11_byteFound 20 = .ok (.invokespecial 83, 3) := by decide +kernel
theorem dX11_byteFound_23 : decode cX11_byteFound 23 = .ok (.athrow, 1) := by decide +kernel
theorem dX11_byteFound_24 : decode cX11_byteFound 24 = .ok (.aload_n 3, 1) := by decide +kernel
theorem dX11_byteFound_25 : decode cX11_byteFound 25 = .ok (.getfield 298, 3) := by decide +kernel
theorem dX11_byteFound_28 : decode cX11_byteFound 28 = .ok (.iload_n 2, 1) := by decide +kernel
theorem dX11_byteFound_29 : decode cX11_byteFound 29 = .ok (.invokestatic 156, 3) := by decide +kernel
theorem dX11_byteFound_32 : decode cX11_byteFound 32 = .ok (.ireturn, 1) := by decide +kernel
set_option maxRecDepth 20000 in
theorem ggX11_digest_X9_survey : GoodIn wsX11_digest wsX9_survey := goodIn_r _ [7, 8, 9, 10, 11, 12, 13, 14, 15, 16, 17, 18, 19, 20, 21, 22, 23, 24, 25, 26, 27, 28, 29, 30, 31, 32, 33, 34, 35, 36, 37, 38, 39, 40, 41, 42, 43, 44, 45, 46, 47, 48, 49, 50, 51, 52, 53, 54, 55, 56, 57, 58, 59, 60, 61, 62, 63, 64, 65, 66, 67, 68, 69, 70, 71, 72, 73, 74, 75, 76, 77, 78, 79, 80, 6, 81, 82, 83, 84, 85, 86, 87, 88, 89, 90, 178, 179, 180, 181, 182, 183, 184, 185, 186, 187, 188, 189, 190, 191] (by decide +kernel) (by decide +kernel)
set_option maxRecDepth 20000 in
theorem gX11_digest_X9_survey : GoodIn wsX11_digest (wsV RX11 230 RX9 yX9_survey wsX9_survey) := goodIn_app (goodIn_of _ (by decide +kernel)) ggX11_digest_X9_survey
set_option maxRecDepth 20000 in
theorem ggX11_digest_X11_withDesk : GoodIn wsX11_digest wsX11_withDesk := goodIn_r _ [94, 95, 96, 97, 98, 99, 100, 101, 102, 103, 62, 104, 105, 106, 107, 108, 109, 110, 111, 112, 113, 114, 115, 116, 117, 118, 119, 120, 121, 122, 123, 124, 125, 126, 26, 27, 28, 29, 30, 127, 128, 173, 174, 175, 176, 177, 192, 193, 194, 195, 196, 197, 198, 199, 200, 189, 190] (by decide +kernel) (by decide +kernel)
set_option maxRecDepth 20000 in
theorem gX11_digest_X11_withDesk : GoodIn wsX11_digest (wsV RX11 309 RX11 yX11_withDesk wsX11_withDesk) := goodIn_app (goodIn_of _ (by decide +kernel)) ggX11_digest_X11_withDesk
set_option maxRecDepth 20000 in
theorem ggX11_digest_X11_withShelf : GoodIn wsX11_digest wsX11_withShelf := goodIn_r _ [132, 1, 133, 83, 84, 6, 85, 12, 134, 135, 136, 16, 137, 24, 19, 25, 26, 27, 28, 29, 30, 102, 103, 62, 104, 105, 138, 14, 15, 17, 18, 20, 21, 22, 23, 31, 32, 33, 34, 35, 36, 37, 38, 39, 40, 41, 42, 43, 44, 45, 46, 47, 48, 49, 50, 51, 52, 53, 54, 55, 56, 57, 58, 59, 60, 61, 63, 64, 65, 66, 67, 68, 69, 70, 71, 72, 73, 74, 75, 76, 77, 139, 140, 141, 142, 10, 128, 143, 144, 145, 146, 147, 8, 9, 148, 149, 150, 151, 82, 152, 173, 174, 175, 176, 177, 185, 186, 187, 188, 178, 179, 180, 181, 182, 183, 184, 189, 190, 191] (by decide +kernel) (by decide +kernel)
set_option maxRecDepth 20000 in
theorem gX11_digest_X11_withShelf : GoodIn wsX11_digest (wsV RX11 313 RX11 yX11_withShelf wsX11_withShelf) := goodIn_app (goodIn_of _ (by decide +kernel)) ggX11_digest_X11_withShelf
set_option maxRecDepth 20000 in
theorem ggX11_digest_X11_withReading : GoodIn wsX11_digest wsX11_withReading := goodIn_r _ [156, 157, 102, 103, 62, 104, 105, 128, 26, 27, 28, 29, 30, 158, 159, 160, 161, 162, 163, 164, 165, 166, 167, 168, 169, 170, 171, 172, 173, 174, 175, 176, 177, 201, 202, 203, 204, 205, 206, 207, 208, 209, 210, 211, 212, 213, 189, 190] (by decide +kernel) (by decide +kernel)
set_option maxRecDepth 20000 in
theorem gX11_digest_X11_withReading : GoodIn wsX11_digest (wsV RX11 316 RX11 yX11_withReading wsX11_withReading) := goodIn_app (goodIn_of _ (by decide +kernel)) ggX11_digest_X11_withReading
theorem dX11_digest_0 : decode cX11_digest 0 = .ok (.aload_n 0, 1) := by decide +kernel
theorem dX11_digest_1 : decode cX11_digest 1 = .ok (.getfield 33, 3) := by decide +kernel
theorem dX11_digest_4 : decode cX11_digest 4 = .ok (.invokevirtual 230, 3) := by decide +kernel
theorem dX11_digest_7 : decode cX11_digest 7 = .ok (.aload_n 0, 1) := by decide +kernel
theorem dX11_digest_8 : decode cX11_digest 8 = .ok (.aload_n 0, 1) := by decide +kernel
theorem dX11_digest_9 : decode cX11_digest 9 = .ok (.aload_n 0, 1) := by decide +kernel
theorem dX11_digest_10 : decode cX11_digest 10 = .ok (.ldc2_w 307, 3) := by decide +kernel
theorem dX11_digest_13 : decode cX11_digest 13 = .ok (.invokevirtual 309, 3) := by decide +kernel
theorem dX11_digest_16 : decode cX11_digest 16 = .ok (.invokevirtual 313, 3) := by decide +kernel
theorem dX11_digest_19 : decode cX11_digest 19 = .ok (.invokevirtual 316, 3) := by decide +kernel
theorem dX11_digest_22 : decode cX11_digest 22 = .ok (.lreturn, 1) := by decide +kernel
set_option maxRecDepth 20000 in
theorem ggX11_withDesk_X2_count : GoodIn wsX11_withDesk wsX2_count := goodIn_r _ [6, 7, 50, 51, 52, 53, 54] (by decide +kernel) (by decide +kernel)
set_option maxRecDepth 20000 in
theorem gX11_withDesk_X2_count : GoodIn wsX11_withDesk (wsV RX11 137 RX2 yX2_count wsX2_count) := goodIn_app (goodIn_of _ (by decide +kernel)) ggX11_withDesk_X2_count
set_option maxRecDepth 20000 in
theorem ggX11_withDesk_X11_then : GoodIn wsX11_withDesk wsX11_then := goodIn_r _ [11, 12] (by decide +kernel) (by decide +kernel)
set_option maxRecDepth 20000 in
theorem gX11_withDesk_X11_then : GoodIn wsX11_withDesk (va_wsS RX11 319 yX11_then wsX11_then) := goodIn_app (goodIn_of _ (by decide +kernel)) ggX11_withDesk_X11_then
set_option maxRecDepth 20000 in
theorem ggX11_withDesk_X2_streamSize : GoodIn wsX11_withDesk wsX2_streamSize := goodIn_r _ [16, 7, 17, 18, 19, 5, 20, 21, 22, 23, 24, 25, 26, 27, 28, 29, 30, 31, 32, 33, 34, 35, 36, 37, 38, 50, 51, 52, 53, 54, 46, 47, 48, 49, 55, 56] (by decide +kernel) (by decide +kernel)
set_option maxRecDepth 20000 in
theorem gX11_withDesk_X2_streamSize : GoodIn wsX11_withDesk (wsV RX11 166 RX2 yX2_streamSize wsX2_streamSize) := goodIn_app (goodIn_of _ (by decide +kernel)) ggX11_withDesk_X2_streamSize
set_option maxRecDepth 20000 in
theorem ggX11_withDesk_X2_at : GoodIn wsX11_withDesk wsX2_at := goodIn_r _ [20, 7, 21, 50, 51, 52, 53, 54] (by decide +kernel) (by decide +kernel)
set_option maxRecDepth 20000 in
theorem gX11_withDesk_X2_at : GoodIn wsX11_withDesk (wsV RX11 323 RX2 yX2_at wsX2_at) := goodIn_app (goodIn_of _ (by decide +kernel)) ggX11_withDesk_X2_at
set_option maxRecDepth 20000 in
theorem ggX11_withDesk_X0_size : GoodIn wsX11_withDesk wsX0_size := goodIn_r _ [37, 38, 55, 56] (by decide +kernel) (by decide +kernel)
set_option maxRecDepth 20000 in
theorem gX11_withDesk_X0_size : GoodIn wsX11_withDesk (wsV RX11 93 RX0 yX0_size wsX0_size) := goodIn_app (goodIn_of _ (by decide +kernel)) ggX11_withDesk_X0_size
theorem dX11_withDesk_0 : decode cX11_withDesk 0 = .ok (.lload_n 1, 1) := by decide +kernel
theorem dX11_withDesk_1 : decode cX11_withDesk 1 = .ok (.aload_n 0, 1) := by decide +kernel
theorem dX11_withDesk_2 : decode cX11_withDesk 2 = .ok (.getfield 24, 3) := by decide +kernel
theorem dX11_withDesk_5 : decode cX11_withDesk 5 = .ok (.invokevirtual 137, 3) := by decide +kernel
theorem dX11_withDesk_8 : decode cX11_withDesk 8 = .ok (.i2l, 1) := by decide +kernel
theorem dX11_withDesk_9 : decode cX11_withDesk 9 = .ok (.invokestatic 319, 3) := by decide +kernel
theorem dX11_withDesk_12 : decode cX11_withDesk 12 = .ok (.aload_n 0, 1) := by decide +kernel
theorem dX11_withDesk_13 : decode cX11_withDesk 13 = .ok (.getfield 24, 3) := by decide +kernel
theorem dX11_withDesk_16 : decode cX11_withDesk 16 = .ok (.invokevirtual 166, 3) := by decide +kernel
theorem dX11_withDesk_19 : decode cX11_withDesk 19 = .ok (.i2l, 1) := by decide +kernel
theorem dX11_withDesk_20 : decode cX11_withDesk 20 = .ok (.invokestatic 319, 3) := by decide +kernel
theorem dX11_withDesk_23 : decode cX11_withDesk 23 = .ok (.lstore_n 3, 1) := by decide +kernel
theorem dX11_withDesk_24 : decode cX11_withDesk 24 = .ok (.iconst 0, 1) := by decide +kernel
theorem dX11_withDesk_25 : decode cX11_withDesk 25 = .ok (.istore 5, 2) := by decide +kernel
theorem dX11_withDesk_27 : decode cX11_withDesk 27 = .ok (.iload 5, 2) := by decide +kernel
theorem dX11_withDesk_29 : decode cX11_withDesk 29 = .ok (.aload_n 0, 1) := by decide +kernel
theorem dX11_withDesk_30 : decode cX11_withDesk 30 = .ok (.getfield 24, 3) := by decide +kernel
theorem dX11_withDesk_33 : decode cX11_withDesk 33 = .ok (.invokevirtual 137, 3) := by decide +kernel
theorem dX11_withDesk_36 : decode cX11_withDesk 36 = .ok (.if_icmp .ge 71, 3) := by decide +kernel
theorem dX11_withDesk_39 : decode cX11_withDesk 39 = .ok (.aload_n 0, 1) := by decide +kernel
theorem dX11_withDesk_40 : decode cX11_withDesk 40 = .ok (.getfield 24, 3) := by decide +kernel
theorem dX11_withDesk_43 : decode cX11_withDesk 43 = .ok (.iload 5, 2) := by decide +kernel
theorem dX11_withDesk_45 : decode cX11_withDesk 45 = .ok (.invokevirtual 323, 3) := by decide +kernel
theorem dX11_withDesk_48 : decode cX11_withDesk 48 = .ok (.astore 6, 2) := by decide +kernel
theorem dX11_withDesk_50 : decode cX11_withDesk 50 = .ok (.aload 6, 2) := by decide +kernel
theorem dX11_withDesk_52 : decode cX11_withDesk 52 = .ok (.ifnull 49, 3) := by decide +kernel
theorem dX11_withDesk_55 : decode cX11_withDesk 55 = .ok (.lload_n 3, 1) := by decide +kernel
theorem dX11_withDesk_56 : decode cX11_withDesk 56 = .ok (.aload 6, 2) := by decide +kernel
theorem dX11_withDesk_58 : decode cX11_withDesk 58 = .ok (.getfield 147, 3) := by decide +kernel
theorem dX11_withDesk_61 : decode cX11_withDesk 61 = .ok (.i2l, 1) := by decide +kernel
theorem dX11_withDesk_62 : decode cX11_withDesk 62 = .ok (.invokestatic 319, 3) := by decide +kernel
theorem dX11_withDesk_65 : decode cX11_withDesk 65 = .ok (.aload 6, 2) := by decide +kernel
theorem dX11_withDesk_67 : decode cX11_withDesk 67 = .ok (.getfield 153, 3) := by decide +kernel
theorem dX11_withDesk_70 : decode cX11_withDesk 70 = .ok (.invokevirtual 93, 3) := by decide +kernel
theorem dX11_withDesk_73 : decode cX11_withDesk 73 = .ok (.i2l, 1) := by decide +kernel
theorem dX11_withDesk_74 : decode cX11_withDesk 74 = .ok (.invokestatic 319, 3) := by decide +kernel
theorem dX11_withDesk_77 : decode cX11_withDesk 77 = .ok (.lstore_n 3, 1) := by decide +kernel
theorem dX11_withDesk_78 : decode cX11_withDesk 78 = .ok (.lload_n 3, 1) := by decide +kernel
theorem dX11_withDesk_79 : decode cX11_withDesk 79 = .ok (.aload 6, 2) := by decide +kernel
theorem dX11_withDesk_81 : decode cX11_withDesk 81 = .ok (.getfield 160, 3) := by decide +kernel
theorem dX11_withDesk_84 : decode cX11_withDesk 84 = .ok (.i2l, 1) := by decide +kernel
theorem dX11_withDesk_85 : decode cX11_withDesk 85 = .ok (.invokestatic 319, 3) := by decide +kernel
theorem dX11_withDesk_88 : decode cX11_withDesk 88 = .ok (.aload 6, 2) := by decide +kernel
theorem dX11_withDesk_90 : decode cX11_withDesk 90 = .ok (.getfield 163, 3) := by decide +kernel
theorem dX11_withDesk_93 : decode cX11_withDesk 93 = .ok (.invokevirtual 93, 3) := by decide +kernel
theorem dX11_withDesk_96 : decode cX11_withDesk 96 = .ok (.i2l, 1) := by decide +kernel
theorem dX11_withDesk_97 : decode cX11_withDesk 97 = .ok (.invokestatic 319, 3) := by decide +kernel
theorem dX11_withDesk_100 : decode cX11_withDesk 100 = .ok (.lstore_n 3, 1) := by decide +kernel
theorem dX11_withDesk_101 : decode cX11_withDesk 101 = .ok (.iinc 5 1, 3) := by decide +kernel
theorem dX11_withDesk_104 : decode cX11_withDesk 104 = .ok (.goto (-77), 3) := by decide +kernel
theorem dX11_withDesk_107 : decode cX11_withDesk 107 = .ok (.lload_n 3, 1) := by decide +kernel
theorem dX11_withDesk_108 : decode cX11_withDesk 108 = .ok (.lreturn, 1) := by decide +kernel
set_option maxRecDepth 20000 in
theorem ggX11_withShelf_X9_at : GoodIn wsX11_withShelf wsX9_at := goodIn_r _ [6, 7, 109, 110, 111, 112, 113, 114, 115] (by decide +kernel) (by decide +kernel)
set_option maxRecDepth 20000 in
theorem gX11_withShelf_X9_at : GoodIn wsX11_withShelf (wsV RX11 257 RX9 yX9_at wsX9_at) := goodIn_app (goodIn_of _ (by decide +kernel)) ggX11_withShelf_X9_at
set_option maxRecDepth 20000 in
theorem ggX11_withShelf_X10_size : GoodIn wsX11_withShelf wsX10_size := goodIn_r _ [12, 13, 14, 15, 16, 17, 18, 19, 20, 105, 106, 107, 108, 116, 117] (by decide +kernel) (by decide +kernel)
set_option maxRecDepth 20000 in
theorem gX11_withShelf_X10_size : GoodIn wsX11_withShelf (wsV RX11 189 RX10 yX10_size wsX10_size) := goodIn_app (goodIn_of _ (by decide +kernel)) ggX11_withShelf_X10_size
set_option maxRecDepth 20000 in
theorem ggX11_withShelf_X11_then : GoodIn wsX11_withShelf wsX11_then := goodIn_r _ [24, 25] (by decide +kernel) (by decide +kernel)
set_option maxRecDepth 20000 in
theorem gX11_withShelf_X11_then : GoodIn wsX11_withShelf (va_wsS RX11 319 yX11_then wsX11_then) := goodIn_app (goodIn_of _ (by decide +kernel)) ggX11_withShelf_X11_then
set_option maxRecDepth 20000 in
theorem ggX11_withShelf_X10_isWhole : GoodIn wsX11_withShelf wsX10_isWhole := goodIn_r _ [29, 30, 14, 31, 32, 33, 11, 34, 13, 15, 16, 17, 18, 19, 20, 35, 36, 37, 38, 39, 40, 41, 42, 43, 44, 45, 46, 47, 48, 49, 50, 51, 52, 53, 54, 55, 56, 57, 58, 59, 60, 61, 62, 63, 64, 65, 23, 66, 67, 68, 69, 70, 71, 72, 73, 74, 75, 76, 77, 78, 79, 80, 105, 106, 107, 108, 116, 117, 118] (by decide +kernel) (by decide +kernel)
set_option maxRecDepth 20000 in
theorem gX11_withShelf_X10_isWhole : GoodIn wsX11_withShelf (wsV RX11 227 RX10 yX10_isWhole wsX10_isWhole) := goodIn_app (goodIn_of _ (by decide +kernel)) ggX11_withShelf_X10_isWhole
set_option maxRecDepth 20000 in
theorem ggX11_withShelf_X9_memberNumber : GoodIn wsX11_withShelf wsX9_memberNumber := goodIn_r _ [84, 85, 109, 110, 111, 112, 113, 114, 115] (by decide +kernel) (by decide +kernel)
set_option maxRecDepth 20000 in
theorem gX11_withShelf_X9_memberNumber : GoodIn wsX11_withShelf (wsV RX11 239 RX9 yX9_memberNumber wsX9_memberNumber) := goodIn_app (goodIn_of _ (by decide +kernel)) ggX11_withShelf_X9_memberNumber
set_option maxRecDepth 20000 in
theorem ggX11_withShelf_X0_size : GoodIn wsX11_withShelf wsX0_size := goodIn_r _ [19, 20, 116, 117] (by decide +kernel) (by decide +kernel)
set_option maxRecDepth 20000 in
theorem gX11_withShelf_X0_size : GoodIn wsX11_withShelf (wsV RX11 93 RX0 yX0_size wsX0_size) := goodIn_app (goodIn_of _ (by decide +kernel)) ggX11_withShelf_X0_size
set_option maxRecDepth 20000 in
theorem ggX11_withShelf_X0_at : GoodIn wsX11_withShelf wsX0_at := goodIn_r _ [38, 20, 39, 116, 117] (by decide +kernel) (by decide +kernel)
set_option maxRecDepth 20000 in
theorem gX11_withShelf_X0_at : GoodIn wsX11_withShelf (wsV RX11 325 RX0 yX0_at wsX0_at) := goodIn_app (goodIn_of _ (by decide +kernel)) ggX11_withShelf_X0_at
set_option maxRecDepth 20000 in
theorem ggX11_withShelf_X9_surplus : GoodIn wsX11_withShelf wsX9_surplus := goodIn_r _ [91, 92, 93, 94, 95, 96, 97, 98, 3, 4, 5, 6, 7, 99, 41, 42, 11, 43, 14, 35, 36, 37, 18, 38, 20, 39, 109, 110, 111, 112, 113, 114, 115, 105, 106, 107, 108, 116, 117] (by decide +kernel) (by decide +kernel)
set_option maxRecDepth 20000 in
theorem gX11_withShelf_X9_surplus : GoodIn wsX11_withShelf (wsV RX11 242 RX9 yX9_surplus wsX9_surplus) := goodIn_app (goodIn_of _ (by decide +kernel)) ggX11_withShelf_X9_surplus
theorem dX11_withShelf_0 : decode cX11_withShelf 0 = .ok (.lload_n 1, 1) := by decide +kernel
theorem dX11_withShelf_1 : decode cX11_withShelf 1 = .ok (.lstore_n 3, 1) := by decide +kernel
theorem dX11_withShelf_2 : decode cX11_withShelf 2 = .ok (.iconst 0, 1) := by decide +kernel
theorem dX11_withShelf_3 : decode cX11_withShelf 3 = .ok (.istore 5, 2) := by decide +kernel
theorem dX11_withShelf_5 : decode cX11_withShelf 5 = .ok (.iload 5, 2) := by decide +kernel
theorem dX11_withShelf_7 : decode cX11_withShelf 7 = .ok (.bipush 16, 2) := by decide +kernel
theorem dX11_withShelf_9 : decode cX11_withShelf 9 = .ok (.if_icmp .ge 105, 3) := by decide +kernel
theorem dX11_withShelf_12 : decode cX11_withShelf 12 = .ok (.aload_n 0, 1) := by decide +kernel
theorem dX11_withShelf_13 : decode cX11_withShelf 13 = .ok (.getfield 33, 3) := by decide +kernel
theorem dX11_withShelf_16 : decode cX11_withShelf 16 = .ok (.iload 5, 2) := by decide +kernel
theorem dX11_withShelf_18 : decode cX11_withShelf 18 = .ok (.invokevirtual 257, 3) := by decide +kernel
theorem dX11_withShelf_21 : decode cX11_withShelf 21 = .ok (.astore 6, 2) := by decide +kernel
theorem dX11_withShelf_23 : decode cX11_withShelf 23 = .ok (.aload 6, 2) := by decide +kernel
theorem dX11_withShelf_25 : decode cX11_withShelf 25 = .ok (.ifnull 83, 3) := by decide +kernel
theorem dX11_withShelf_28 : decode cX11_withShelf 28 = .ok (.lload_n 3, 1) := by decide +kernel
theorem dX11_withShelf_29 : decode cX11_withShelf 29 = .ok (.aload 6, 2) := by decide +kernel
theorem dX11_withShelf_31 : decode cX11_withShelf 31 = .ok (.invokevirtual 189, 3) := by decide +kernel
theorem dX11_withShelf_34 : decode cX11_withShelf 34 = .ok (.i2l, 1) := by decide +kernel
theorem dX11_withShelf_35 : decode cX11_withShelf 35 = .ok (.invokestatic 319, 3) := by decide +kernel
theorem dX11_withShelf_38 : decode cX11_withShelf 38 = .ok (.aload 6, 2) := by decide +kernel
theorem dX11_withShelf_40 : decode cX11_withShelf 40 = .ok (.invokevirtual 227, 3) := by decide +kernel
theorem dX11_withShelf_43 : decode cX11_withShelf 43 = .ok (.ifCond .eq 7, 3) := by decide +kernel
theorem dX11_withShelf_46 : decode cX11_withShelf 46 = .ok (.lconst 1, 1) := by decide +kernel
theorem dX11_withShelf_47 : decode cX11_withShelf 47 = .ok (.goto 4, 3) := by decide +kernel
theorem dX11_withShelf_50 : decode cX11_withShelf 50 = .ok (.lconst 0, 1) := by decide +kernel
theorem dX11_withShelf_51 : decode cX11_withShelf 51 = .ok (.invokestatic 319, 3) := by decide +kernel
theorem dX11_withShelf_54 : decode cX11_withShelf 54 = .ok (.lstore_n 3, 1) := by decide +kernel
theorem dX11_withShelf_55 : decode cX11_withShelf 55 = .ok (.lload_n 3, 1) := by decide +kernel
theorem dX11_withShelf_56 : decode cX11_withShelf 56 = .ok (.aload_n 0, 1) := by decide +kernel
theorem dX11_withShelf_57 : decode cX11_withShelf 57 = .ok (.getfield 33, 3) := by decide +kernel
theorem dX11_withShelf_60 : decode cX11_withShelf 60 = .ok (.iload 5, 2) := by decide +kernel
theorem dX11_withShelf_62 : decode cX11_withShelf 62 = .ok (.invokevirtual 239, 3) := by decide +kernel
theorem dX11_withShelf_65 : decode cX11_withShelf 65 = .ok (.i2l, 1) := by decide +kernel
theorem dX11_withShelf_66 : decode cX11_withShelf 66 = .ok (.invokestatic 319, 3) := by decide +kernel
theorem dX11_withShelf_69 : decode cX11_withShelf 69 = .ok (.lstore_n 3, 1) := by decide +kernel
theorem dX11_withShelf_70 : decode cX11_withShelf 70 = .ok (.iconst 0, 1) := by decide +kernel
theorem dX11_withShelf_71 : decode cX11_withShelf 71 = .ok (.istore 7, 2) := by decide +kernel
theorem dX11_withShelf_73 : decode cX11_withShelf 73 = .ok (.iload 7, 2) := by decide +kernel
theorem dX11_withShelf_75 : decode cX11_withShelf 75 = .ok (.aload 6, 2) := by decide +kernel
theorem dX11_withShelf_77 : decode cX11_withShelf 77 = .ok (.getfield 195, 3) := by decide +kernel
theorem dX11_withShelf_80 : decode cX11_withShelf 80 = .ok (.invokevirtual 93, 3) := by decide +kernel
theorem dX11_withShelf_83 : decode cX11_withShelf 83 = .ok (.if_icmp .ge 25, 3) := by decide +kernel
theorem dX11_withShelf_86 : decode cX11_withShelf 86 = .ok (.lload_n 3, 1) := by decide +kernel
theorem dX11_withShelf_87 : decode cX11_withShelf 87 = .ok (.aload 6, 2) := by decide +kernel
theorem dX11_withShelf_89 : decode cX11_withShelf 89 = .ok (.getfield 195, 3) := by decide +kernel
theorem dX11_withShelf_92 : decode cX11_withShelf 92 = .ok (.iload 7, 2) := by decide +kernel
theorem dX11_withShelf_94 : decode cX11_withShelf 94 = .ok (.invokevirtual 325, 3) := by decide +kernel
theorem dX11_withShelf_97 : decode cX11_withShelf 97 = .ok (.i2l, 1) := by decide +kernel
theorem dX11_withShelf_98 : decode cX11_withShelf 98 = .ok (.invokestatic 319, 3) := by decide +kernel
theorem dX11_withShelf_101 : decode cX11_withShelf 101 = .ok (.lstore_n 3, 1) := by decide +kernel
theorem dX11_withShelf_102 : decode cX11_withShelf 102 = .ok (.iinc 7 1, 3) := by decide +kernel
theorem dX11_withShelf_105 : decode cX11_withShelf 105 = .ok (.goto (-32), 3) := by decide +kernel
theorem dX11_withShelf_108 : decode cX11_withShelf 108 = .ok (.iinc 5 1, 3) := by decide +kernel
theorem dX11_withShelf_111 : decode cX11_withShelf 111 = .ok (.goto (-106), 3) := by decide +kernel
theorem dX11_withShelf_114 : decode cX11_withShelf 114 = .ok (.lload_n 3, 1) := by decide +kernel
theorem dX11_withShelf_115 : decode cX11_withShelf 115 = .ok (.aload_n 0, 1) := by decide +kernel
theorem dX11_withShelf_116 : decode cX11_withShelf 116 = .ok (.getfield 33, 3) := by decide +kernel
theorem dX11_withShelf_119 : decode cX11_withShelf 119 = .ok (.getfield 233, 3) := by decide +kernel
theorem dX11_withShelf_122 : decode cX11_withShelf 122 = .ok (.i2l, 1) := by decide +kernel
theorem dX11_withShelf_123 : decode cX11_withShelf 123 = .ok (.invokestatic 319, 3) := by decide +kernel
theorem dX11_withShelf_126 : decode cX11_withShelf 126 = .ok (.aload_n 0, 1) := by decide +kernel
theorem dX11_withShelf_127 : decode cX11_withShelf 127 = .ok (.getfield 33, 3) := by decide +kernel
theorem dX11_withShelf_130 : decode cX11_withShelf 130 = .ok (.getfield 236, 3) := by decide +kernel
theorem dX11_withShelf_133 : decode cX11_withShelf 133 = .ok (.i2l, 1) := by decide +kernel
theorem dX11_withShelf_134 : decode cX11_withShelf 134 = .ok (.invokestatic 319, 3) := by decide +kernel
theorem dX11_withShelf_137 : decode cX11_withShelf 137 = .ok (.aload_n 0, 1) := by decide +kernel
theorem dX11_withShelf_138 : decode cX11_withShelf 138 = .ok (.getfield 33, 3) := by decide +kernel
theorem dX11_withShelf_141 : decode cX11_withShelf 141 = .ok (.invokevirtual 242, 3) := by decide +kernel
theorem dX11_withShelf_144 : decode cX11_withShelf 144 = .ok (.i2l, 1) := by decide +kernel
theorem dX11_withShelf_145 : decode cX11_withShelf 145 = .ok (.invokestatic 319, 3) := by decide +kernel
theorem dX11_withShelf_148 : decode cX11_withShelf 148 = .ok (.lreturn, 1) := by decide +kernel
set_option maxRecDepth 20000 in
theorem ggX11_withReading_X11_then : GoodIn wsX11_withReading wsX11_then := goodIn_r _ [5, 6] (by decide +kernel) (by decide +kernel)
set_option maxRecDepth 20000 in
theorem gX11_withReading_X11_then : GoodIn wsX11_withReading (va_wsS RX11 319 yX11_then wsX11_then) := goodIn_app (goodIn_of _ (by decide +kernel)) ggX11_withReading_X11_then
set_option maxRecDepth 20000 in
theorem ggX11_withReading_X0_size : GoodIn wsX11_withReading wsX0_size := goodIn_r _ [11, 12, 46, 47] (by decide +kernel) (by decide +kernel)
set_option maxRecDepth 20000 in
theorem gX11_withReading_X0_size : GoodIn wsX11_withReading (wsV RX11 93 RX0 yX0_size wsX0_size) := goodIn_app (goodIn_of _ (by decide +kernel)) ggX11_withReading_X0_size
set_option maxRecDepth 20000 in
theorem ggX11_withReading_X7_at : GoodIn wsX11_withReading wsX7_at := goodIn_r _ [17, 18, 19, 33, 34, 35, 36, 37, 38, 39, 40] (by decide +kernel) (by decide +kernel)
set_option maxRecDepth 20000 in
theorem gX11_withReading_X7_at : GoodIn wsX11_withReading (wsV RX11 299 RX7 yX7_at wsX7_at) := goodIn_app (goodIn_of _ (by decide +kernel)) ggX11_withReading_X7_at
set_option maxRecDepth 20000 in
theorem ggX11_withReading_X5_size : GoodIn wsX11_withReading wsX5_size := goodIn_r _ [24, 25, 26, 27, 8, 9, 10, 11, 12, 41, 42, 43, 44, 45, 46, 47] (by decide +kernel) (by decide +kernel)
set_option maxRecDepth 20000 in
theorem gX11_withReading_X5_size : GoodIn wsX11_withReading (wsV RX11 295 RX5 yX5_size wsX5_size) := goodIn_app (goodIn_of _ (by decide +kernel)) ggX11_withReading_X5_size
theorem dX11_withReading_0 : decode cX11_withReading 0 = .ok (.aload_n 0, 1) := by decide +kernel
theorem dX11_withReading_1 : decode cX11_withReading 1 = .ok (.getfield 49, 3) := by decide +kernel
theorem dX11_withReading_4 : decode cX11_withReading 4 = .ok (.getfield 327, 3) := by decide +kernel
theorem dX11_withReading_7 : decode cX11_withReading 7 = .ok (.ifCond .ne 9, 3) := by decide +kernel
theorem dX11_withReading_10 : decode cX11_withReading 10 = .ok (.lload_n 1, 1) := by decide +kernel
theorem dX11_withReading_11 : decode cX11_withReading 11 = .ok (.lconst 0, 1) := by decide +kernel
theorem dX11_withReading_12 : decode cX11_withReading 12 = .ok (.invokestatic 319, 3) := by decide +kernel
theorem dX11_withReading_15 : decode cX11_withReading 15 = .ok (.lreturn, 1) := by decide +kernel
theorem dX11_withReading_16 : decode cX11_withReading 16 = .ok (.lload_n 1, 1) := by decide +kernel
theorem dX11_withReading_17 : decode cX11_withReading 17 = .ok (.lconst 1, 1) := by decide +kernel
theorem dX11_withReading_18 : decode cX11_withReading 18 = .ok (.invokestatic 319, 3) := by decide +kernel
theorem dX11_withReading_21 : decode cX11_withReading 21 = .ok (.aload_n 0, 1) := by decide +kernel
theorem dX11_withReading_22 : decode cX11_withReading 22 = .ok (.getfield 49, 3) := by decide +kernel
theorem dX11_withReading_25 : decode cX11_withReading 25 = .ok (.getfield 248, 3) := by decide +kernel
theorem dX11_withReading_28 : decode cX11_withReading 28 = .ok (.invokevirtual 93, 3) := by decide +kernel
theorem dX11_withReading_31 : decode cX11_withReading 31 = .ok (.i2l, 1) := by decide +kernel
theorem dX11_withReading_32 : decode cX11_withReading 32 = .ok (.invokestatic 319, 3) := by decide +kernel
theorem dX11_withReading_35 : decode cX11_withReading 35 = .ok (.lstore_n 3, 1) := by decide +kernel
theorem dX11_withReading_36 : decode cX11_withReading 36 = .ok (.lload_n 3, 1) := by decide +kernel
theorem dX11_withReading_37 : decode cX11_withReading 37 = .ok (.aload_n 0, 1) := by decide +kernel
theorem dX11_withReading_38 : decode cX11_withReading 38 = .ok (.getfield 49, 3) := by decide +kernel
theorem dX11_withReading_41 : decode cX11_withReading 41 = .ok (.getfield 276, 3) := by decide +kernel
theorem dX11_withReading_44 : decode cX11_withReading 44 = .ok (.ifCond .eq 7, 3) := by decide +kernel
theorem dX11_withReading_47 : decode cX11_withReading 47 = .ok (.lconst 1, 1) := by decide +kernel
theorem dX11_withReading_48 : decode cX11_withReading 48 = .ok (.goto 4, 3) := by decide +kernel
theorem dX11_withReading_51 : decode cX11_withReading 51 = .ok (.lconst 0, 1) := by decide +kernel
theorem dX11_withReading_52 : decode cX11_withReading 52 = .ok (.invokestatic 319, 3) := by decide +kernel
theorem dX11_withReading_55 : decode cX11_withReading 55 = .ok (.aload_n 0, 1) := by decide +kernel
theorem dX11_withReading_56 : decode cX11_withReading 56 = .ok (.getfield 49, 3) := by decide +kernel
theorem dX11_withReading_59 : decode cX11_withReading 59 = .ok (.getfield 280, 3) := by decide +kernel
theorem dX11_withReading_62 : decode cX11_withReading 62 = .ok (.i2l, 1) := by decide +kernel
theorem dX11_withReading_63 : decode cX11_withReading 63 = .ok (.invokestatic 319, 3) := by decide +kernel
theorem dX11_withReading_66 : decode cX11_withReading 66 = .ok (.lstore_n 3, 1) := by decide +kernel
theorem dX11_withReading_67 : decode cX11_withReading 67 = .ok (.iconst 0, 1) := by decide +kernel
theorem dX11_withReading_68 : decode cX11_withReading 68 = .ok (.istore 5, 2) := by decide +kernel
theorem dX11_withReading_70 : decode cX11_withReading 70 = .ok (.iload 5, 2) := by decide +kernel
theorem dX11_withReading_72 : decode cX11_withReading 72 = .ok (.aload_n 0, 1) := by decide +kernel
theorem dX11_withReading_73 : decode cX11_withReading 73 = .ok (.getfield 49, 3) := by decide +kernel
theorem dX11_withReading_76 : decode cX11_withReading 76 = .ok (.getfield 280, 3) := by decide +kernel
theorem dX11_withReading_79 : decode cX11_withReading 79 = .ok (.if_icmp .ge 72, 3) := by decide +kernel
theorem dX11_withReading_82 : decode cX11_withReading 82 = .ok (.aload_n 0, 1) := by decide +kernel
theorem dX11_withReading_83 : decode cX11_withReading 83 = .ok (.getfield 49, 3) := by decide +kernel
theorem dX11_withReading_86 : decode cX11_withReading 86 = .ok (.iload 5, 2) := by decide +kernel
theorem dX11_withReading_88 : decode cX11_withReading 88 = .ok (.invokevirtual 299, 3) := by decide +kernel
theorem dX11_withReading_91 : decode cX11_withReading 91 = .ok (.astore 6, 2) := by decide +kernel
theorem dX11_withReading_93 : decode cX11_withReading 93 = .ok (.aload 6, 2) := by decide +kernel
theorem dX11_withReading_95 : decode cX11_withReading 95 = .ok (.ifnull 50, 3) := by decide +kernel
theorem dX11_withReading_98 : decode cX11_withReading 98 = .ok (.lload_n 3, 1) := by decide +kernel
theorem dX11_withReading_99 : decode cX11_withReading 99 = .ok (.aload 6, 2) := by decide +kernel
theorem dX11_withReading_101 : decode cX11_withReading 101 = .ok (.getfield 286, 3) := by decide +kernel
theorem dX11_withReading_104 : decode cX11_withReading 104 = .ok (.i2l, 1) := by decide +kernel
theorem dX11_withReading_105 : decode cX11_withReading 105 = .ok (.invokestatic 319, 3) := by decide +kernel
theorem dX11_withReading_108 : decode cX11_withReading 108 = .ok (.aload 6, 2) := by decide +kernel
theorem dX11_withReading_110 : decode cX11_withReading 110 = .ok (.getfield 289, 3) := by decide +kernel
theorem dX11_withReading_113 : decode cX11_withReading 113 = .ok (.i2l, 1) := by decide +kernel
theorem dX11_withReading_114 : decode cX11_withReading 114 = .ok (.invokestatic 319, 3) := by decide +kernel
theorem dX11_withReading_117 : decode cX11_withReading 117 = .ok (.lstore_n 3, 1) := by decide +kernel
theorem dX11_withReading_118 : decode cX11_withReading 118 = .ok (.lload_n 3, 1) := by decide +kernel
theorem dX11_withReading_119 : decode cX11_withReading 119 = .ok (.aload 6, 2) := by decide +kernel
theorem dX11_withReading_121 : decode cX11_withReading 121 = .ok (.getfield 292, 3) := by decide +kernel
theorem dX11_withReading_124 : decode cX11_withReading 124 = .ok (.ifCond .eq 7, 3) := by decide +kernel
theorem dX11_withReading_127 : decode cX11_withReading 127 = .ok (.lconst 1, 1) := by decide +kernel
theorem dX11_withReading_128 : decode cX11_withReading 128 = .ok (.goto 4, 3) := by decide +kernel
theorem dX11_withReading_131 : decode cX11_withReading 131 = .ok (.lconst 0, 1) := by decide +kernel
theorem dX11_withReading_132 : decode cX11_withReading 132 = .ok (.invokestatic 319, 3) := by decide +kernel
theorem dX11_withReading_135 : decode cX11_withReading 135 = .ok (.aload 6, 2) := by decide +kernel
theorem dX11_withReading_137 : decode cX11_withReading 137 = .ok (.invokevirtual 295, 3) := by decide +kernel
theorem dX11_withReading_140 : decode cX11_withReading 140 = .ok (.i2l, 1) := by decide +kernel
theorem dX11_withReading_141 : decode cX11_withReading 141 = .ok (.invokestatic 319, 3) := by decide +kernel
theorem dX11_withReading_144 : decode cX11_withReading 144 = .ok (.lstore_n 3, 1) := by decide +kernel
theorem dX11_withReading_145 : decode cX11_withReading 145 = .ok (.iinc 5 1, 3) := by decide +kernel
theorem dX11_withReading_148 : decode cX11_withReading 148 = .ok (.goto (-78), 3) := by decide +kernel
theorem dX11_withReading_151 : decode cX11_withReading 151 = .ok (.lload_n 3, 1) := by decide +kernel
theorem dX11_withReading_152 : decode cX11_withReading 152 = .ok (.lreturn, 1) := by decide +kernel
theorem dX11_then_0 : decode cX11_then 0 = .ok (.lload_n 0, 1) := by decide +kernel
theorem dX11_then_1 : decode cX11_then 1 = .ok (.ldc2_w 330, 3) := by decide +kernel
theorem dX11_then_4 : decode cX11_then 4 = .ok (.lmul, 1) := by decide +kernel
theorem dX11_then_5 : decode cX11_then 5 = .ok (.lload_n 2, 1) := by decide +kernel
theorem dX11_then_6 : decode cX11_then 6 = .ok (.ladd, 1) := by decide +kernel
theorem dX11_then_7 : decode cX11_then 7 = .ok (.lreturn, 1) := by decide +kernel
set_option maxRecDepth 20000 in
theorem ggX11_placeOnShelf_X9_at : GoodIn wsX11_placeOnShelf wsX9_at := goodIn_r _ [8, 9, 15, 16, 17, 18, 19, 20, 21] (by decide +kernel) (by decide +kernel)
set_option maxRecDepth 20000 in
theorem gX11_placeOnShelf_X9_at : GoodIn wsX11_placeOnShelf (wsV RX11 257 RX9 yX9_at wsX9_at) := goodIn_app (goodIn_of _ (by decide +kernel)) ggX11_placeOnShelf_X9_at
theorem dX11_placeOnShelf_0 : decode cX11_placeOnShelf 0 = .ok (.aload_n 0, 1) := by decide +kernel
theorem dX11_placeOnShelf_1 : decode cX11_placeOnShelf 1 = .ok (.getfield 33, 3) := by decide +kernel
theorem dX11_placeOnShelf_4 : decode cX11_placeOnShelf 4 = .ok (.iload_n 1, 1) := by decide +kernel
theorem dX11_placeOnShelf_5 : decode cX11_placeOnShelf 5 = .ok (.invokevirtual 257, 3) := by decide +kernel
theorem dX11_placeOnShelf_8 : decode cX11_placeOnShelf 8 = .ok (.astore_n 2, 1) := by decide +kernel
theorem dX11_placeOnShelf_9 : decode cX11_placeOnShelf 9 = .ok (.aload_n 2, 1) := by decide +kernel
theorem dX11_placeOnShelf_10 : decode cX11_placeOnShelf 10 = .ok (.ifnonnull 14, 3) := by decide +kernel
theorem dX11_placeOnShelf_13 : decode cX11_placeOnShelf 13 = .ok (.new 79, 3) := by decide +kernel
theorem dX11_placeOnShelf_16 : decode cX11_placeOnShelf 16 = .ok (.dup, 1) := by decide +kernel
theorem dX11_placeOnShelf_17 : decode cX11_placeOnShelf 17 = .ok (.ldc_w 334, 3) := by decide +kernel
theorem dX11_placeOnShelf_20 : decode cX11_placeOnShelf 20 = .ok (.invokespecial 83, 3) := by decide +kernel
theorem dX11_placeOnShelf_23 : decode cX11_placeOnShelf 23 = .ok (.athrow, 1) := by decide +kernel
theorem dX11_placeOnShelf_24 : decode cX11_placeOnShelf 24 = .ok (.aload_n 2, 1) := by decide +kernel
theorem dX11_placeOnShelf_25 : decode cX11_placeOnShelf 25 = .ok (.areturn, 1) := by decide +kernel
set_option maxRecDepth 20000 in
theorem ggX11_volumeOnShelf_X11_placeOnShelf : GoodIn wsX11_volumeOnShelf wsX11_placeOnShelf := goodIn_ca (goodIn_r _ [7, 1, 2, 8, 9, 10, 11, 12, 13, 14, 21, 22, 23, 24, 25, 26, 27, 28, 29, 30, 31, 32] (by decide +kernel) (by decide +kernel)) (goodIn_sub (fun _ h => List.mem_cons_of_mem _ (List.mem_append_right _ h)) (by decide +kernel))
set_option maxRecDepth 20000 in
theorem gX11_volumeOnShelf_X11_placeOnShelf : GoodIn wsX11_volumeOnShelf (wsV RX11 185 RX11 yX11_placeOnShelf wsX11_placeOnShelf) := goodIn_app (goodIn_of _ (by decide +kernel)) ggX11_volumeOnShelf_X11_placeOnShelf
set_option maxRecDepth 20000 in
theorem ggX11_volumeOnShelf_X10_isHere : GoodIn wsX11_volumeOnShelf wsX10_isHere := goodIn_r _ [19, 20, 33, 34, 35, 36] (by decide +kernel) (by decide +kernel)
set_option maxRecDepth 20000 in
theorem gX11_volumeOnShelf_X10_isHere : GoodIn wsX11_volumeOnShelf (wsV RX11 213 RX10 yX10_isHere wsX10_isHere) := goodIn_app (goodIn_of _ (by decide +kernel)) ggX11_volumeOnShelf_X10_isHere
theorem dX11_volumeOnShelf_0 : decode cX11_volumeOnShelf 0 = .ok (.aload_n 0, 1) := by decide +kernel
theorem dX11_volumeOnShelf_1 : decode cX11_volumeOnShelf 1 = .ok (.iload_n 1, 1) := by decide +kernel
theorem dX11_volumeOnShelf_2 : decode cX11_volumeOnShelf 2 = .ok (.invokevirtual 185, 3) := by decide +kernel
theorem dX11_volumeOnShelf_5 : decode cX11_volumeOnShelf 5 = .ok (.astore_n 2, 1) := by decide +kernel
theorem dX11_volumeOnShelf_6 : decode cX11_volumeOnShelf 6 = .ok (.aload_n 2, 1) := by decide +kernel
theorem dX11_volumeOnShelf_7 : decode cX11_volumeOnShelf 7 = .ok (.invokevirtual 213, 3) := by decide +kernel
theorem dX11_volumeOnShelf_10 : decode cX11_volumeOnShelf 10 = .ok (.ifCond .ne 14, 3) := by decide +kernel
theorem dX11_volumeOnShelf_13 : decode cX11_volumeOnShelf 13 = .ok (.new 79, 3) := by decide +kernel
theorem dX11_volumeOnShelf_16 : decode cX11_volumeOnShelf 16 = .ok (.dup, 1) := by decide +kernel
theorem dX11_volumeOnShelf_17 : decode cX11_volumeOnShelf 17 = .ok (.ldc_w 336, 3) := by decide +kernel
theorem dX11_volumeOnShelf_20 : decode cX11_volumeOnShelf 20 = .ok (.invokespecial 83, 3) := by decide +kernel
theorem dX11_volumeOnShelf_23 : decode cX11_volumeOnShelf 23 = .ok (.athrow, 1) := by decide +kernel
theorem dX11_volumeOnShelf_24 : decode cX11_volumeOnShelf 24 = .ok (.aload_n 2, 1) := by decide +kernel
theorem dX11_volumeOnShelf_25 : decode cX11_volumeOnShelf 25 = .ok (.areturn, 1) := by decide +kernel
theorem dX11_requireOpen_0 : decode cX11_requireOpen 0 = .ok (.aload_n 0, 1) := by decide +kernel
theorem dX11_requireOpen_1 : decode cX11_requireOpen 1 = .ok (.getfield 49, 3) := by decide +kernel
theorem dX11_requireOpen_4 : decode cX11_requireOpen 4 = .ok (.getfield 327, 3) := by decide +kernel
theorem dX11_requireOpen_7 : decode cX11_requireOpen 7 = .ok (.ifCond .ne 14, 3) := by decide +kernel
theorem dX11_requireOpen_10 : decode cX11_requireOpen 10 = .ok (.new 99, 3) := by decide +kernel
theorem dX11_requireOpen_13 : decode cX11_requireOpen 13 = .ok (.dup, 1) := by decide +kernel
theorem dX11_requireOpen_14 : decode cX11_requireOpen 14 = .ok (.ldc_w 338, 3) := by decide +kernel
theorem dX11_requireOpen_17 : decode cX11_requireOpen 17 = .ok (.invokespecial 103, 3) := by decide +kernel
theorem dX11_requireOpen_20 : decode cX11_requireOpen 20 = .ok (.athrow, 1) := by decide +kernel
theorem dX11_requireOpen_21 : decode cX11_requireOpen 21 = .ok (.return_, 1) := by decide +kernel
set_option maxRecDepth 20000 in
theorem ggX11_readFile_X11_requireOpen : GoodIn wsX11_readFile wsX11_requireOpen := goodIn_ca (goodIn_r _ [8, 9, 10, 3, 18, 19, 20, 21, 22, 23, 24, 25, 26, 27, 28, 29, 30] (by decide +kernel) (by decide +kernel)) (goodIn_sub (fun _ h => List.mem_cons_of_mem _ (List.mem_append_right _ h)) (by decide +kernel))
set_option maxRecDepth 20000 in
theorem gX11_readFile_X11_requireOpen : GoodIn wsX11_readFile (wsV RX11 245 RX11 yX11_requireOpen wsX11_requireOpen) := goodIn_app (goodIn_of _ (by decide +kernel)) ggX11_readFile_X11_requireOpen
set_option maxRecDepth 20000 in
theorem ggX11_readFile_X7_at : GoodIn wsX11_readFile wsX7_at := goodIn_r _ [15, 16, 17, 23, 24, 25, 26, 27, 28, 29, 30] (by decide +kernel) (by decide +kernel)
set_option maxRecDepth 20000 in
theorem gX11_readFile_X7_at : GoodIn wsX11_readFile (wsV RX11 299 RX7 yX7_at wsX7_at) := goodIn_app (goodIn_of _ (by decide +kernel)) ggX11_readFile_X7_at
theorem dX11_readFile_0 : decode cX11_readFile 0 = .ok (.aload_n 0, 1) := by decide +kernel
theorem dX11_readFile_1 : decode cX11_readFile 1 = .ok (.invokevirtual 245, 3) := by decide +kernel
theorem dX11_readFile_4 : decode cX11_readFile 4 = .ok (.aload_n 0, 1) := by decide +kernel
theorem dX11_readFile_5 : decode cX11_readFile 5 = .ok (.getfield 49, 3) := by decide +kernel
theorem dX11_readFile_8 : decode cX11_readFile 8 = .ok (.iload_n 1, 1) := by decide +kernel
theorem dX11_readFile_9 : decode cX11_readFile 9 = .ok (.invokevirtual 299, 3) := by decide +kernel
theorem dX11_readFile_12 : decode cX11_readFile 12 = .ok (.astore_n 2, 1) := by decide +kernel
theorem dX11_readFile_13 : decode cX11_readFile 13 = .ok (.aload_n 2, 1) := by decide +kernel
theorem dX11_readFile_14 : decode cX11_readFile 14 = .ok (.ifnonnull 14, 3) := by decide +kernel
theorem dX11_readFile_17 : decode cX11_readFile 17 = .ok (.new 79, 3) := by decide +kernel
theorem dX11_readFile_20 : decode cX11_readFile 20 = .ok (.dup, 1) := by decide +kernel
theorem dX11_readFile_21 : decode cX11_readFile 21 = .ok (.ldc_w 340, 3) := by decide +kernel
theorem dX11_readFile_24 : decode cX11_readFile 24 = .ok (.invokespecial 83, 3) := by decide +kernel
theorem dX11_readFile_27 : decode cX11_readFile 27 = .ok (.athrow, 1) := by decide +kernel
theorem dX11_readFile_28 : decode cX11_readFile 28 = .ok (.aload_n 2, 1) := by decide +kernel
theorem dX11_readFile_29 : decode cX11_readFile 29 = .ok (.areturn, 1) := by decide +kernel
set_option maxRecDepth 20000 in
theorem ggX11_byteIn_X0_size : GoodIn wsX11_byteIn wsX0_size := goodIn_r _ [7, 8, 14, 15] (by decide +kernel) (by decide +kernel)
set_option maxRecDepth 20000 in
theorem gX11_byteIn_X0_size : GoodIn wsX11_byteIn (wsV RX11 93 RX0 yX0_size wsX0_size) := goodIn_app (goodIn_of _ (by decide +kernel)) ggX11_byteIn_X0_size
set_option maxRecDepth 20000 in
theorem ggX11_byteIn_X0_at : GoodIn wsX11_byteIn wsX0_at := goodIn_r _ [12, 8, 13, 14, 15] (by decide +kernel) (by decide +kernel)
set_option maxRecDepth 20000 in
theorem gX11_byteIn_X0_at : GoodIn wsX11_byteIn (wsV RX11 325 RX0 yX0_at wsX0_at) := goodIn_app (goodIn_of _ (by decide +kernel)) ggX11_byteIn_X0_at
theorem dX11_byteIn_0 : decode cX11_byteIn 0 = .ok (.iload_n 1, 1) := by decide +kernel
theorem dX11_byteIn_1 : decode cX11_byteIn 1 = .ok (.ifCond .lt 11, 3) := by decide +kernel
theorem dX11_byteIn_4 : decode cX11_byteIn 4 = .ok (.iload_n 1, 1) := by decide +kernel
theorem dX11_byteIn_5 : decode cX11_byteIn 5 = .ok (.aload_n 0, 1) := by decide +kernel
theorem dX11_byteIn_6 : decode cX11_byteIn 6 = .ok (.invokevirtual 93, 3) := by decide +kernel
theorem dX11_byteIn_9 : decode cX11_byteIn 9 = .ok (.if_icmp .lt 14, 3) := by decide +kernel
theorem dX11_byteIn_12 : decode cX11_byteIn 12 = .ok (.new 79, 3) := by decide +kernel
theorem dX11_byteIn_15 : decode cX11_byteIn 15 = .ok (.dup, 1) := by decide +kernel
theorem dX11_byteIn_16 : decode cX11_byteIn 16 = .ok (.ldc_w 342, 3) := by decide +kernel
theorem dX11_byteIn_19 : decode cX11_byteIn 19 = .ok (.invokespecial 83, 3) := by decide +kernel
theorem dX11_byteIn_22 : decode cX11_byteIn 22 = .ok (.athrow, 1) := by decide +kernel
theorem dX11_byteIn_23 : decode cX11_byteIn 23 = .ok (.aload_n 0, 1) := by decide +kernel
theorem dX11_byteIn_24 : decode cX11_byteIn 24 = .ok (.iload_n 1, 1) := by decide +kernel
theorem dX11_byteIn_25 : decode cX11_byteIn 25 = .ok (.invokevirtual 325, 3) := by decide +kernel
theorem dX11_byteIn_28 : decode cX11_byteIn 28 = .ok (.ireturn, 1) := by decide +kernel
theorem dX11_isByte_0 : decode cX11_isByte 0 = .ok (.iload_n 0, 1) := by decide +kernel
theorem dX11_isByte_1 : decode cX11_isByte 1 = .ok (.ifCond .lt 14, 3) := by decide +kernel
theorem dX11_isByte_4 : decode cX11_isByte 4 = .ok (.iload_n 0, 1) := by decide +kernel
theorem dX11_isByte_5 : decode cX11_isByte 5 = .ok (.sipush 255, 3) := by decide +kernel
theorem dX11_isByte_8 : decode cX11_isByte 8 = .ok (.if_icmp .gt 7, 3) := by decide +kernel
theorem dX11_isByte_11 : decode cX11_isByte 11 = .ok (.iconst 1, 1) := by decide +kernel
theorem dX11_isByte_12 : decode cX11_isByte 12 = .ok (.goto 4, 3) := by decide +kernel
theorem dX11_isByte_15 : decode cX11_isByte 15 = .ok (.iconst 0, 1) := by decide +kernel
theorem dX11_isByte_16 : decode cX11_isByte 16 = .ok (.ireturn, 1) := by decide +kernel
theorem dX11_isWord_0 : decode cX11_isWord 0 = .ok (.iload_n 0, 1) := by decide +kernel
theorem dX11_isWord_1 : decode cX11_isWord 1 = .ok (.ifCond .lt 14, 3) := by decide +kernel
theorem dX11_isWord_4 : decode cX11_isWord 4 = .ok (.iload_n 0, 1) := by decide +kernel
theorem dX11_isWord_5 : decode cX11_isWord 5 = .ok (.ldc_w 344, 3) := by decide +kernel
theorem dX11_isWord_8 : decode cX11_isWord 8 = .ok (.if_icmp .gt 7, 3) := by decide +kernel
theorem dX11_isWord_11 : decode cX11_isWord 11 = .ok (.iconst 1, 1) := by decide +kernel
theorem dX11_isWord_12 : decode cX11_isWord 12 = .ok (.goto 4, 3) := by decide +kernel
theorem dX11_isWord_15 : decode cX11_isWord 15 = .ok (.iconst 0, 1) := by decide +kernel
theorem dX11_isWord_16 : decode cX11_isWord 16 = .ok (.ireturn, 1) := by decide +kernel
theorem dX11_bodySize_0 : decode cX11_bodySize 0 = .ok (.iload_n 1, 1) := by decide +kernel
theorem dX11_bodySize_1 : decode cX11_bodySize 1 = .ok (.ifCond .le 13, 3) := by decide +kernel
theorem dX11_bodySize_4 : decode cX11_bodySize 4 = .ok (.iload_n 0, 1) := by decide +kernel
theorem dX11_bodySize_5 : decode cX11_bodySize 5 = .ok (.iload_n 1, 1) := by decide +kernel
theorem dX11_bodySize_6 : decode cX11_bodySize 6 = .ok (.iadd, 1) := by decide +kernel
theorem dX11_bodySize_7 : decode cX11_bodySize 7 = .ok (.iconst 1, 1) := by decide +kernel
theorem dX11_bodySize_8 : decode cX11_bodySize 8 = .ok (.isub, 1) := by decide +kernel
theorem dX11_bodySize_9 : decode cX11_bodySize 9 = .ok (.iload_n 1, 1) := by decide +kernel
theorem dX11_bodySize_10 : decode cX11_bodySize 10 = .ok (.idiv, 1) := by decide +kernel
theorem dX11_bodySize_11 : decode cX11_bodySize 11 = .ok (.goto 4, 3) := by decide +kernel
theorem dX11_bodySize_14 : decode cX11_bodySize 14 = .ok (.iconst 0, 1) := by decide +kernel
theorem dX11_bodySize_15 : decode cX11_bodySize 15 = .ok (.ireturn, 1) := by decide +kernel
