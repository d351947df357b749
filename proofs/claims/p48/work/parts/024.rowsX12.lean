set_option maxRecDepth 20000 in
theorem ggX12_init_X11_init : GoodIn wsX12_init wsX11_init := goodIn_r _ [16, 17, 2, 3, 18, 19, 20, 21, 22, 23, 24, 25, 26, 27, 28, 29, 30, 31, 32, 33, 34, 35, 36, 37, 38, 39, 40, 41, 42, 43, 44, 8, 45, 46, 47, 48, 49, 50, 51, 52, 53, 54, 55, 56, 57, 58, 59, 60, 61, 62, 63, 64, 65, 66, 67, 68, 69, 70, 71, 72, 73, 74, 75, 76, 77, 78, 79, 80, 81, 82, 83, 84, 85, 86, 87, 88, 89, 90, 91, 92, 93, 94, 95, 96, 97, 98, 99, 100, 101, 102, 103, 104, 105, 106, 107, 108, 109, 110, 111, 112, 113, 114, 115, 116, 117, 118, 119, 120, 121, 122, 123, 124, 125, 126, 127, 128, 129, 141, 142, 143, 130, 131, 132, 133, 134, 144, 145, 146, 147, 148, 149, 150, 151, 152, 153, 154, 155, 156, 157, 158, 159, 160, 161, 162, 163, 164, 165, 166, 167, 168, 169, 170, 171, 172, 173, 174, 175, 176, 177, 178, 179, 180, 181] (by decide +kernel) (by decide +kernel)
set_option maxRecDepth 20000 in
theorem gX12_init_X11_init : GoodIn wsX12_init (wsX11_init) := ggX12_init_X11_init
theorem dX12_init_0 : decode cX12_init 0 = .ok (.aload_n 0, 1) := by decide +kernel
theorem dX12_init_1 : decode cX12_init 1 = .ok (.invokespecial 1, 3) := by decide +kernel
theorem dX12_init_4 : decode cX12_init 4 = .ok (.aload_n 0, 1) := by decide +kernel
theorem dX12_init_5 : decode cX12_init 5 = .ok (.new 7, 3) := by decide +kernel
theorem dX12_init_8 : decode cX12_init 8 = .ok (.dup, 1) := by decide +kernel
theorem dX12_init_9 : decode cX12_init 9 = .ok (.invokespecial 9, 3) := by decide +kernel
theorem dX12_init_12 : decode cX12_init 12 = .ok (.putfield 10, 3) := by decide +kernel
theorem dX12_init_15 : decode cX12_init 15 = .ok (.aload_n 0, 1) := by decide +kernel
theorem dX12_init_16 : decode cX12_init 16 = .ok (.bipush 17, 2) := by decide +kernel
theorem dX12_init_18 : decode cX12_init 18 = .ok (.newarray .int, 2) := by decide +kernel
theorem dX12_init_20 : decode cX12_init 20 = .ok (.putfield 16, 3) := by decide +kernel
theorem dX12_init_23 : decode cX12_init 23 = .ok (.aload_n 0, 1) := by decide +kernel
theorem dX12_init_24 : decode cX12_init 24 = .ok (.bipush 17, 2) := by decide +kernel
theorem dX12_init_26 : decode cX12_init 26 = .ok (.anewarray 20, 3) := by decide +kernel
theorem dX12_init_29 : decode cX12_init 29 = .ok (.putfield 21, 3) := by decide +kernel
theorem dX12_init_32 : decode cX12_init 32 = .ok (.aload_n 0, 1) := by decide +kernel
theorem dX12_init_33 : decode cX12_init 33 = .ok (.aload_n 1, 1) := by decide +kernel
theorem dX12_init_34 : decode cX12_init 34 = .ok (.putfield 25, 3) := by decide +kernel
theorem dX12_init_37 : decode cX12_init 37 = .ok (.aload_n 0, 1) := by decide +kernel
theorem dX12_init_38 : decode cX12_init 38 = .ok (.iload_n 2, 1) := by decide +kernel
theorem dX12_init_39 : decode cX12_init 39 = .ok (.putfield 28, 3) := by decide +kernel
theorem dX12_init_42 : decode cX12_init 42 = .ok (.return_, 1) := by decide +kernel
set_option maxRecDepth 20000 in
theorem ggX12_draw_L_cell : GoodIn wsX12_draw wsL_cell := goodIn_r _ [5, 6] (by decide +kernel) (by decide +kernel)
set_option maxRecDepth 20000 in
theorem gX12_draw_L_cell_n32 : GoodIn wsX12_draw (wsL_cell) := ggX12_draw_L_cell
set_option maxRecDepth 20000 in
theorem ggX12_draw_L_below : GoodIn wsX12_draw wsL_below := goodIn_r _ [8, 9] (by decide +kernel) (by decide +kernel)
set_option maxRecDepth 20000 in
theorem gX12_draw_L_below_n38 : GoodIn wsX12_draw (wsL_below) := ggX12_draw_L_below
theorem dX12_draw_0 : decode cX12_draw 0 = .ok (.aload_n 0, 1) := by decide +kernel
theorem dX12_draw_1 : decode cX12_draw 1 = .ok (.getfield 25, 3) := by decide +kernel
theorem dX12_draw_4 : decode cX12_draw 4 = .ok (.aload_n 0, 1) := by decide +kernel
theorem dX12_draw_5 : decode cX12_draw 5 = .ok (.getfield 28, 3) := by decide +kernel
theorem dX12_draw_8 : decode cX12_draw 8 = .ok (.bipush 24, 2) := by decide +kernel
theorem dX12_draw_10 : decode cX12_draw 10 = .ok (.irem, 1) := by decide +kernel
theorem dX12_draw_11 : decode cX12_draw 11 = .ok (.invokestatic 32, 3) := by decide +kernel
theorem dX12_draw_14 : decode cX12_draw 14 = .ok (.aload_n 0, 1) := by decide +kernel
theorem dX12_draw_15 : decode cX12_draw 15 = .ok (.getfield 28, 3) := by decide +kernel
theorem dX12_draw_18 : decode cX12_draw 18 = .ok (.bipush 24, 2) := by decide +kernel
theorem dX12_draw_20 : decode cX12_draw 20 = .ok (.idiv, 1) := by decide +kernel
theorem dX12_draw_21 : decode cX12_draw 21 = .ok (.bipush 8, 2) := by decide +kernel
theorem dX12_draw_23 : decode cX12_draw 23 = .ok (.irem, 1) := by decide +kernel
theorem dX12_draw_24 : decode cX12_draw 24 = .ok (.ishr, 1) := by decide +kernel
theorem dX12_draw_25 : decode cX12_draw 25 = .ok (.bipush 41, 2) := by decide +kernel
theorem dX12_draw_27 : decode cX12_draw 27 = .ok (.aload_n 0, 1) := by decide +kernel
theorem dX12_draw_28 : decode cX12_draw 28 = .ok (.getfield 28, 3) := by decide +kernel
theorem dX12_draw_31 : decode cX12_draw 31 = .ok (.imul, 1) := by decide +kernel
theorem dX12_draw_32 : decode cX12_draw 32 = .ok (.iadd, 1) := by decide +kernel
theorem dX12_draw_33 : decode cX12_draw 33 = .ok (.iload_n 1, 1) := by decide +kernel
theorem dX12_draw_34 : decode cX12_draw 34 = .ok (.invokestatic 38, 3) := by decide +kernel
theorem dX12_draw_37 : decode cX12_draw 37 = .ok (.istore_n 2, 1) := by decide +kernel
theorem dX12_draw_38 : decode cX12_draw 38 = .ok (.aload_n 0, 1) := by decide +kernel
theorem dX12_draw_39 : decode cX12_draw 39 = .ok (.dup, 1) := by decide +kernel
theorem dX12_draw_40 : decode cX12_draw 40 = .ok (.getfield 28, 3) := by decide +kernel
theorem dX12_draw_43 : decode cX12_draw 43 = .ok (.iconst 1, 1) := by decide +kernel
theorem dX12_draw_44 : decode cX12_draw 44 = .ok (.iadd, 1) := by decide +kernel
theorem dX12_draw_45 : decode cX12_draw 45 = .ok (.putfield 28, 3) := by decide +kernel
theorem dX12_draw_48 : decode cX12_draw 48 = .ok (.iload_n 2, 1) := by decide +kernel
theorem dX12_draw_49 : decode cX12_draw 49 = .ok (.ireturn, 1) := by decide +kernel
set_option maxRecDepth 20000 in
theorem ggX12_write_X12_draw : GoodIn wsX12_write wsX12_draw := goodIn_r _ [19, 20, 21, 22, 23, 24, 25, 26, 27, 28, 67, 68, 69, 70, 71, 72] (by decide +kernel) (by decide +kernel)
set_option maxRecDepth 20000 in
theorem gX12_write_X12_draw : GoodIn wsX12_write (wsV RX12 42 RX12 yX12_draw wsX12_draw) := goodIn_app (goodIn_of _ (by decide +kernel)) ggX12_write_X12_draw
set_option maxRecDepth 20000 in
theorem ggX12_write_X11_write : GoodIn wsX12_write wsX11_write := goodIn_ca (goodIn_ca (goodIn_r _ [33, 34, 35, 36, 37, 38, 39, 40, 32, 41, 42, 43, 44, 45, 46, 47, 48, 49, 50, 51, 52, 53, 54, 55, 56, 73, 74, 75, 76, 77, 78, 79, 80, 81, 82, 83, 84] (by decide +kernel) (by decide +kernel)) (goodIn_sub (fun _ h => List.mem_cons_of_mem _ (List.mem_append_left _ (List.mem_append_right _ h))) (by decide +kernel))) (goodIn_sub (fun _ h => List.mem_cons_of_mem _ (List.mem_append_right _ h)) (by decide +kernel))
set_option maxRecDepth 20000 in
theorem gX12_write_X11_write : GoodIn wsX12_write (wsV RX12 51 RX11 yX11_write wsX11_write) := goodIn_app (goodIn_of _ (by decide +kernel)) ggX12_write_X11_write
set_option maxRecDepth 20000 in
theorem ggX12_write_X11_noise : GoodIn wsX12_write wsX11_noise := goodIn_ca (goodIn_ca (goodIn_r _ [60, 34, 35, 36, 37, 38, 61, 62, 63, 32, 64, 65, 42, 43, 44, 45, 46, 47, 66, 53, 54, 55, 56, 73, 74, 75, 76, 77, 78, 79, 80, 81, 82, 83, 84] (by decide +kernel) (by decide +kernel)) (goodIn_sub (fun _ h => List.mem_cons_of_mem _ (List.mem_append_left _ (List.mem_append_right _ h))) (by decide +kernel))) (goodIn_sub (fun _ h => List.mem_cons_of_mem _ (List.mem_append_right _ h)) (by decide +kernel))
set_option maxRecDepth 20000 in
theorem gX12_write_X11_noise : GoodIn wsX12_write (wsV RX12 55 RX11 yX11_noise wsX11_noise) := goodIn_app (goodIn_of _ (by decide +kernel)) ggX12_write_X11_noise
theorem dX12_write_0 : decode cX12_write 0 = .ok (.sipush 240, 3) := by decide +kernel
theorem dX12_write_3 : decode cX12_write 3 = .ok (.newarray .int, 2) := by decide +kernel
theorem dX12_write_5 : decode cX12_write 5 = .ok (.astore_n 2, 1) := by decide +kernel
theorem dX12_write_6 : decode cX12_write 6 = .ok (.iconst 0, 1) := by decide +kernel
theorem dX12_write_7 : decode cX12_write 7 = .ok (.istore_n 3, 1) := by decide +kernel
theorem dX12_write_8 : decode cX12_write 8 = .ok (.aload_n 0, 1) := by decide +kernel
theorem dX12_write_9 : decode cX12_write 9 = .ok (.bipush 6, 2) := by decide +kernel
theorem dX12_write_11 : decode cX12_write 11 = .ok (.invokevirtual 42, 3) := by decide +kernel
theorem dX12_write_14 : decode cX12_write 14 = .ok (.istore 4, 2) := by decide +kernel
theorem dX12_write_16 : decode cX12_write 16 = .ok (.iload 4, 2) := by decide +kernel
theorem dX12_write_18 : decode cX12_write 18 = .ok (.ifCond .le 182, 3) := by decide +kernel
theorem dX12_write_21 : decode cX12_write 21 = .ok (.iload_n 3, 1) := by decide +kernel
theorem dX12_write_22 : decode cX12_write 22 = .ok (.iload_n 1, 1) := by decide +kernel
theorem dX12_write_23 : decode cX12_write 23 = .ok (.if_icmp .ge 177, 3) := by decide +kernel
theorem dX12_write_26 : decode cX12_write 26 = .ok (.iload_n 1, 1) := by decide +kernel
theorem dX12_write_27 : decode cX12_write 27 = .ok (.iload_n 3, 1) := by decide +kernel
theorem dX12_write_28 : decode cX12_write 28 = .ok (.isub, 1) := by decide +kernel
theorem dX12_write_29 : decode cX12_write 29 = .ok (.iconst 1, 1) := by decide +kernel
theorem dX12_write_30 : decode cX12_write 30 = .ok (.aload_n 0, 1) := by decide +kernel
theorem dX12_write_31 : decode cX12_write 31 = .ok (.aload_n 0, 1) := by decide +kernel
theorem dX12_write_32 : decode cX12_write 32 = .ok (.iconst 3, 1) := by decide +kernel
theorem dX12_write_33 : decode cX12_write 33 = .ok (.invokevirtual 42, 3) := by decide +kernel
theorem dX12_write_36 : decode cX12_write 36 = .ok (.ifCond .ne 9, 3) := by decide +kernel
theorem dX12_write_39 : decode cX12_write 39 = .ok (.sipush 150, 3) := by decide +kernel
theorem dX12_write_42 : decode cX12_write 42 = .ok (.goto 5, 3) := by decide +kernel
theorem dX12_write_45 : decode cX12_write 45 = .ok (.bipush 12, 2) := by decide +kernel
theorem dX12_write_47 : decode cX12_write 47 = .ok (.invokevirtual 42, 3) := by decide +kernel
theorem dX12_write_50 : decode cX12_write 50 = .ok (.iadd, 1) := by decide +kernel
theorem dX12_write_51 : decode cX12_write 51 = .ok (.invokestatic 46, 3) := by decide +kernel
theorem dX12_write_54 : decode cX12_write 54 = .ok (.istore 5, 2) := by decide +kernel
theorem dX12_write_56 : decode cX12_write 56 = .ok (.aload_n 0, 1) := by decide +kernel
theorem dX12_write_57 : decode cX12_write 57 = .ok (.iconst 3, 1) := by decide +kernel
theorem dX12_write_58 : decode cX12_write 58 = .ok (.invokevirtual 42, 3) := by decide +kernel
theorem dX12_write_61 : decode cX12_write 61 = .ok (.ifCond .le 59, 3) := by decide +kernel
theorem dX12_write_64 : decode cX12_write 64 = .ok (.aload_n 0, 1) := by decide +kernel
theorem dX12_write_65 : decode cX12_write 65 = .ok (.sipush 256, 3) := by decide +kernel
theorem dX12_write_68 : decode cX12_write 68 = .ok (.invokevirtual 42, 3) := by decide +kernel
theorem dX12_write_71 : decode cX12_write 71 = .ok (.istore 6, 2) := by decide +kernel
theorem dX12_write_73 : decode cX12_write 73 = .ok (.aload_n 0, 1) := by decide +kernel
theorem dX12_write_74 : decode cX12_write 74 = .ok (.getfield 10, 3) := by decide +kernel
theorem dX12_write_77 : decode cX12_write 77 = .ok (.iload 6, 2) := by decide +kernel
theorem dX12_write_79 : decode cX12_write 79 = .ok (.iload 5, 2) := by decide +kernel
theorem dX12_write_81 : decode cX12_write 81 = .ok (.invokevirtual 51, 3) := by decide +kernel
theorem dX12_write_84 : decode cX12_write 84 = .ok (.iload_n 3, 1) := by decide +kernel
theorem dX12_write_85 : decode cX12_write 85 = .ok (.iload 5, 2) := by decide +kernel
theorem dX12_write_87 : decode cX12_write 87 = .ok (.iadd, 1) := by decide +kernel
theorem dX12_write_88 : decode cX12_write 88 = .ok (.if_icmp .eq 5, 3) := by decide +kernel
theorem dX12_write_91 : decode cX12_write 91 = .ok (.aconst_null, 1) := by decide +kernel
theorem dX12_write_92 : decode cX12_write 92 = .ok (.areturn, 1) := by decide +kernel
theorem dX12_write_93 : decode cX12_write 93 = .ok (.iconst 0, 1) := by decide +kernel
theorem dX12_write_94 : decode cX12_write 94 = .ok (.istore 7, 2) := by decide +kernel
theorem dX12_write_96 : decode cX12_write 96 = .ok (.iload 7, 2) := by decide +kernel
theorem dX12_write_98 : decode cX12_write 98 = .ok (.iload 5, 2) := by decide +kernel
theorem dX12_write_100 : decode cX12_write 100 = .ok (.if_icmp .ge 17, 3) := by decide +kernel
theorem dX12_write_103 : decode cX12_write 103 = .ok (.aload_n 2, 1) := by decide +kernel
theorem dX12_write_104 : decode cX12_write 104 = .ok (.iload_n 3, 1) := by decide +kernel
theorem dX12_write_105 : decode cX12_write 105 = .ok (.iinc 3 1, 3) := by decide +kernel
theorem dX12_write_108 : decode cX12_write 108 = .ok (.iload 6, 2) := by decide +kernel
theorem dX12_write_110 : decode cX12_write 110 = .ok (.iastore, 1) := by decide +kernel
theorem dX12_write_111 : decode cX12_write 111 = .ok (.iinc 7 1, 3) := by decide +kernel
theorem dX12_write_114 : decode cX12_write 114 = .ok (.goto (-18), 3) := by decide +kernel
theorem dX12_write_117 : decode cX12_write 117 = .ok (.goto 77, 3) := by decide +kernel
theorem dX12_write_120 : decode cX12_write 120 = .ok (.aload_n 0, 1) := by decide +kernel
theorem dX12_write_121 : decode cX12_write 121 = .ok (.ldc 54, 2) := by decide +kernel
theorem dX12_write_123 : decode cX12_write 123 = .ok (.invokevirtual 42, 3) := by decide +kernel
theorem dX12_write_126 : decode cX12_write 126 = .ok (.istore 6, 2) := by decide +kernel
theorem dX12_write_128 : decode cX12_write 128 = .ok (.aload_n 0, 1) := by decide +kernel
theorem dX12_write_129 : decode cX12_write 129 = .ok (.getfield 10, 3) := by decide +kernel
theorem dX12_write_132 : decode cX12_write 132 = .ok (.iload 6, 2) := by decide +kernel
theorem dX12_write_134 : decode cX12_write 134 = .ok (.iload 5, 2) := by decide +kernel
theorem dX12_write_136 : decode cX12_write 136 = .ok (.invokevirtual 55, 3) := by decide +kernel
theorem dX12_write_139 : decode cX12_write 139 = .ok (.iload_n 3, 1) := by decide +kernel
theorem dX12_write_140 : decode cX12_write 140 = .ok (.iload 5, 2) := by decide +kernel
theorem dX12_write_142 : decode cX12_write 142 = .ok (.iadd, 1) := by decide +kernel
theorem dX12_write_143 : decode cX12_write 143 = .ok (.if_icmp .eq 5, 3) := by decide +kernel
theorem dX12_write_146 : decode cX12_write 146 = .ok (.aconst_null, 1) := by decide +kernel
theorem dX12_write_147 : decode cX12_write 147 = .ok (.areturn, 1) := by decide +kernel
theorem dX12_write_148 : decode cX12_write 148 = .ok (.iconst 0, 1) := by decide +kernel
theorem dX12_write_149 : decode cX12_write 149 = .ok (.istore 7, 2) := by decide +kernel
theorem dX12_write_151 : decode cX12_write 151 = .ok (.iload 7, 2) := by decide +kernel
theorem dX12_write_153 : decode cX12_write 153 = .ok (.iload 5, 2) := by decide +kernel
theorem dX12_write_155 : decode cX12_write 155 = .ok (.if_icmp .ge 39, 3) := by decide +kernel
theorem dX12_write_158 : decode cX12_write 158 = .ok (.iload 6, 2) := by decide +kernel
theorem dX12_write_160 : decode cX12_write 160 = .ok (.i2l, 1) := by decide +kernel
theorem dX12_write_161 : decode cX12_write 161 = .ok (.ldc2_w 58, 3) := by decide +kernel
theorem dX12_write_164 : decode cX12_write 164 = .ok (.lmul, 1) := by decide +kernel
theorem dX12_write_165 : decode cX12_write 165 = .ok (.ldc2_w 60, 3) := by decide +kernel
theorem dX12_write_168 : decode cX12_write 168 = .ok (.ladd, 1) := by decide +kernel
theorem dX12_write_169 : decode cX12_write 169 = .ok (.ldc2_w 62, 3) := by decide +kernel
theorem dX12_write_172 : decode cX12_write 172 = .ok (.lrem, 1) := by decide +kernel
theorem dX12_write_173 : decode cX12_write 173 = .ok (.l2i, 1) := by decide +kernel
theorem dX12_write_174 : decode cX12_write 174 = .ok (.istore 6, 2) := by decide +kernel
theorem dX12_write_176 : decode cX12_write 176 = .ok (.aload_n 2, 1) := by decide +kernel
theorem dX12_write_177 : decode cX12_write 177 = .ok (.iload_n 3, 1) := by decide +kernel
theorem dX12_write_178 : decode cX12_write 178 = .ok (.iinc 3 1, 3) := by decide +kernel
theorem dX12_write_181 : decode cX12_write 181 = .ok (.iload 6, 2) := by decide +kernel
theorem dX12_write_183 : decode cX12_write 183 = .ok (.sipush 255, 3) := by decide +kernel
theorem dX12_write_186 : decode cX12_write 186 = .ok (.iand, 1) := by decide +kernel
theorem dX12_write_187 : decode cX12_write 187 = .ok (.iastore, 1) := by decide +kernel
theorem dX12_write_188 : decode cX12_write 188 = .ok (.iinc 7 1, 3) := by decide +kernel
theorem dX12_write_191 : decode cX12_write 191 = .ok (.goto (-40), 3) := by decide +kernel
theorem dX12_write_194 : decode cX12_write 194 = .ok (.iinc 4 (-1), 3) := by decide +kernel
theorem dX12_write_197 : decode cX12_write 197 = .ok (.goto (-181), 3) := by decide +kernel
theorem dX12_write_200 : decode cX12_write 200 = .ok (.iload_n 3, 1) := by decide +kernel
theorem dX12_write_201 : decode cX12_write 201 = .ok (.newarray .int, 2) := by decide +kernel
theorem dX12_write_203 : decode cX12_write 203 = .ok (.astore 4, 2) := by decide +kernel
theorem dX12_write_205 : decode cX12_write 205 = .ok (.aload_n 2, 1) := by decide +kernel
theorem dX12_write_206 : decode cX12_write 206 = .ok (.iconst 0, 1) := by decide +kernel
theorem dX12_write_207 : decode cX12_write 207 = .ok (.aload 4, 2) := by decide +kernel
theorem dX12_write_209 : decode cX12_write 209 = .ok (.iconst 0, 1) := by decide +kernel
theorem dX12_write_210 : decode cX12_write 210 = .ok (.iload_n 3, 1) := by decide +kernel
theorem dX12_write_211 : decode cX12_write 211 = .ok (.invokestatic 64, 3) := by decide +kernel
theorem dX12_write_214 : decode cX12_write 214 = .ok (.aload 4, 2) := by decide +kernel
theorem dX12_write_216 : decode cX12_write 216 = .ok (.areturn, 1) := by decide +kernel
set_option maxRecDepth 20000 in
theorem ggX12_store_X12_write : GoodIn wsX12_store wsX12_write := goodIn_ca (goodIn_ca (goodIn_r _ [10, 11, 12, 13, 14, 15, 5, 3, 16, 17, 18, 19, 20, 21, 22, 23, 24, 25, 9, 26, 27, 28, 29, 30, 31, 32, 33, 34, 35, 36, 37, 38, 39, 40, 41, 42, 43, 44, 45, 46, 47, 48, 49, 50, 51, 52, 53, 54, 55, 56, 57, 58, 59, 60, 61, 62, 63, 64, 65, 66, 67, 68, 69, 70, 71, 72, 73, 170, 171, 172, 173, 174, 175, 176, 177, 178, 179, 180, 181, 182, 183, 184, 185, 186, 187] (by decide +kernel) (by decide +kernel)) (goodIn_sub (fun _ h => List.mem_cons_of_mem _ (List.mem_append_left _ (List.mem_append_right _ h))) (by decide +kernel))) (goodIn_sub (fun _ h => List.mem_cons_of_mem _ (List.mem_append_right _ h)) (by decide +kernel))
set_option maxRecDepth 20000 in
theorem gX12_store_X12_write : GoodIn wsX12_store (wsV RX12 70 RX12 yX12_write wsX12_write) := goodIn_app (goodIn_of _ (by decide +kernel)) ggX12_store_X12_write
set_option maxRecDepth 20000 in
theorem ggX12_store_X12_draw : GoodIn wsX12_store wsX12_draw := goodIn_r _ [26, 27, 28, 29, 30, 31, 32, 33, 34, 35, 170, 171, 172, 173, 174, 175] (by decide +kernel) (by decide +kernel)
set_option maxRecDepth 20000 in
theorem gX12_store_X12_draw : GoodIn wsX12_store (wsV RX12 42 RX12 yX12_draw wsX12_draw) := goodIn_app (goodIn_of _ (by decide +kernel)) ggX12_store_X12_draw
set_option maxRecDepth 20000 in
theorem ggX12_store_X11_store : GoodIn wsX12_store wsX11_store := goodIn_ca (goodIn_ca (goodIn_r _ [77, 41, 42, 43, 44, 45, 69, 70, 39, 71, 72, 78, 79, 80, 81, 82, 83, 84, 85, 86, 87, 88, 89, 90, 91, 92, 93, 94, 95, 96, 97, 98, 99, 100, 101, 102, 103, 104, 105, 106, 107, 108, 109, 110, 111, 112, 113, 114, 115, 116, 117, 118, 52, 119, 120, 121, 122, 123, 54, 124, 50, 51, 53, 125, 126, 127, 128, 129, 130, 131, 132, 63, 59, 60, 61, 62, 133, 134, 135, 136, 137, 138, 139, 140, 141, 142, 143, 144, 145, 146, 147, 148, 149, 150, 151, 152, 153, 154, 155, 156, 157, 158, 159, 13, 14, 15, 160, 161, 162, 163, 164, 165, 166, 167, 168, 169, 176, 177, 178, 179, 180, 181, 182, 183, 184, 185, 188, 189, 190, 191, 186, 187, 192] (by decide +kernel) (by decide +kernel)) (goodIn_sub (fun _ h => List.mem_cons_of_mem _ (List.mem_append_left _ (List.mem_append_right _ h))) (by decide +kernel))) (goodIn_sub (fun _ h => List.mem_cons_of_mem _ (List.mem_append_right _ h)) (by decide +kernel))
set_option maxRecDepth 20000 in
theorem gX12_store_X11_store : GoodIn wsX12_store (wsV RX12 76 RX11 yX11_store wsX11_store) := goodIn_app (goodIn_of _ (by decide +kernel)) ggX12_store_X11_store
theorem dX12_store_0 : decode cX12_store 0 = .ok (.aload_n 0, 1) := by decide +kernel
theorem dX12_store_1 : decode cX12_store 1 = .ok (.iload_n 1, 1) := by decide +kernel
theorem dX12_store_2 : decode cX12_store 2 = .ok (.invokevirtual 70, 3) := by decide +kernel
theorem dX12_store_5 : decode cX12_store 5 = .ok (.astore_n 2, 1) := by decide +kernel
theorem dX12_store_6 : decode cX12_store 6 = .ok (.aload_n 2, 1) := by decide +kernel
theorem dX12_store_7 : decode cX12_store 7 = .ok (.ifnonnull 5, 3) := by decide +kernel
theorem dX12_store_10 : decode cX12_store 10 = .ok (.iconst 0, 1) := by decide +kernel
theorem dX12_store_11 : decode cX12_store 11 = .ok (.ireturn, 1) := by decide +kernel
theorem dX12_store_12 : decode cX12_store 12 = .ok (.aload_n 0, 1) := by decide +kernel
theorem dX12_store_13 : decode cX12_store 13 = .ok (.getfield 73, 3) := by decide +kernel
theorem dX12_store_16 : decode cX12_store 16 = .ok (.bipush 16, 2) := by decide +kernel
theorem dX12_store_18 : decode cX12_store 18 = .ok (.if_icmp .ne 17, 3) := by decide +kernel
theorem dX12_store_21 : decode cX12_store 21 = .ok (.aload_n 0, 1) := by decide +kernel
theorem dX12_store_22 : decode cX12_store 22 = .ok (.getfield 16, 3) := by decide +kernel
theorem dX12_store_25 : decode cX12_store 25 = .ok (.aload_n 0, 1) := by decide +kernel
theorem dX12_store_26 : decode cX12_store 26 = .ok (.bipush 16, 2) := by decide +kernel
theorem dX12_store_28 : decode cX12_store 28 = .ok (.invokevirtual 42, 3) := by decide +kernel
theorem dX12_store_31 : decode cX12_store 31 = .ok (.iaload, 1) := by decide +kernel
theorem dX12_store_32 : decode cX12_store 32 = .ok (.goto 26, 3) := by decide +kernel
theorem dX12_store_35 : decode cX12_store 35 = .ok (.aload_n 0, 1) := by decide +kernel
theorem dX12_store_36 : decode cX12_store 36 = .ok (.iconst 4, 1) := by decide +kernel
theorem dX12_store_37 : decode cX12_store 37 = .ok (.invokevirtual 42, 3) := by decide +kernel
theorem dX12_store_40 : decode cX12_store 40 = .ok (.ifCond .ne 12, 3) := by decide +kernel
theorem dX12_store_43 : decode cX12_store 43 = .ok (.aload_n 0, 1) := by decide +kernel
theorem dX12_store_44 : decode cX12_store 44 = .ok (.ldc 54, 2) := by decide +kernel
theorem dX12_store_46 : decode cX12_store 46 = .ok (.invokevirtual 42, 3) := by decide +kernel
theorem dX12_store_49 : decode cX12_store 49 = .ok (.goto 9, 3) := by decide +kernel
theorem dX12_store_52 : decode cX12_store 52 = .ok (.aload_n 0, 1) := by decide +kernel
theorem dX12_store_53 : decode cX12_store 53 = .ok (.bipush 9, 2) := by decide +kernel
theorem dX12_store_55 : decode cX12_store 55 = .ok (.invokevirtual 42, 3) := by decide +kernel
theorem dX12_store_58 : decode cX12_store 58 = .ok (.istore_n 3, 1) := by decide +kernel
theorem dX12_store_59 : decode cX12_store 59 = .ok (.iconst 0, 1) := by decide +kernel
theorem dX12_store_60 : decode cX12_store 60 = .ok (.istore 4, 2) := by decide +kernel
theorem dX12_store_62 : decode cX12_store 62 = .ok (.iload 4, 2) := by decide +kernel
theorem dX12_store_64 : decode cX12_store 64 = .ok (.aload_n 0, 1) := by decide +kernel
theorem dX12_store_65 : decode cX12_store 65 = .ok (.getfield 73, 3) := by decide +kernel
theorem dX12_store_68 : decode cX12_store 68 = .ok (.if_icmp .ge 20, 3) := by decide +kernel
theorem dX12_store_71 : decode cX12_store 71 = .ok (.aload_n 0, 1) := by decide +kernel
theorem dX12_store_72 : decode cX12_store 72 = .ok (.getfield 16, 3) := by decide +kernel
theorem dX12_store_75 : decode cX12_store 75 = .ok (.iload 4, 2) := by decide +kernel
theorem dX12_store_77 : decode cX12_store 77 = .ok (.iaload, 1) := by decide +kernel
theorem dX12_store_78 : decode cX12_store 78 = .ok (.iload_n 3, 1) := by decide +kernel
theorem dX12_store_79 : decode cX12_store 79 = .ok (.if_icmp .ge 9, 3) := by decide +kernel
theorem dX12_store_82 : decode cX12_store 82 = .ok (.iinc 4 1, 3) := by decide +kernel
theorem dX12_store_85 : decode cX12_store 85 = .ok (.goto (-23), 3) := by decide +kernel
theorem dX12_store_88 : decode cX12_store 88 = .ok (.iload 4, 2) := by decide +kernel
theorem dX12_store_90 : decode cX12_store 90 = .ok (.aload_n 0, 1) := by decide +kernel
theorem dX12_store_91 : decode cX12_store 91 = .ok (.getfield 73, 3) := by decide +kernel
theorem dX12_store_94 : decode cX12_store 94 = .ok (.if_icmp .eq 14, 3) := by decide +kernel
theorem dX12_store_97 : decode cX12_store 97 = .ok (.aload_n 0, 1) := by decide +kernel
theorem dX12_store_98 : decode cX12_store 98 = .ok (.getfield 16, 3) := by decide +kernel
theorem dX12_store_101 : decode cX12_store 101 = .ok (.iload 4, 2) := by decide +kernel
theorem dX12_store_103 : decode cX12_store 103 = .ok (.iaload, 1) := by decide +kernel
theorem dX12_store_104 : decode cX12_store 104 = .ok (.iload_n 3, 1) := by decide +kernel
theorem dX12_store_105 : decode cX12_store 105 = .ok (.if_icmp .eq 64, 3) := by decide +kernel
theorem dX12_store_108 : decode cX12_store 108 = .ok (.aload_n 0, 1) := by decide +kernel
theorem dX12_store_109 : decode cX12_store 109 = .ok (.getfield 73, 3) := by decide +kernel
theorem dX12_store_112 : decode cX12_store 112 = .ok (.istore 5, 2) := by decide +kernel
theorem dX12_store_114 : decode cX12_store 114 = .ok (.iload 5, 2) := by decide +kernel
theorem dX12_store_116 : decode cX12_store 116 = .ok (.iload 4, 2) := by decide +kernel
theorem dX12_store_118 : decode cX12_store 118 = .ok (.if_icmp .le 41, 3) := by decide +kernel
theorem dX12_store_121 : decode cX12_store 121 = .ok (.aload_n 0, 1) := by decide +kernel
theorem dX12_store_122 : decode cX12_store 122 = .ok (.getfield 16, 3) := by decide +kernel
theorem dX12_store_125 : decode cX12_store 125 = .ok (.iload 5, 2) := by decide +kernel
theorem dX12_store_127 : decode cX12_store 127 = .ok (.aload_n 0, 1) := by decide +kernel
theorem dX12_store_128 : decode cX12_store 128 = .ok (.getfield 16, 3) := by decide +kernel
theorem dX12_store_131 : decode cX12_store 131 = .ok (.iload 5, 2) := by decide +kernel
theorem dX12_store_133 : decode cX12_store 133 = .ok (.iconst 1, 1) := by decide +kernel
theorem dX12_store_134 : decode cX12_store 134 = .ok (.isub, 1) := by decide +kernel
theorem dX12_store_135 : decode cX12_store 135 = .ok (.iaload, 1) := by decide +kernel
theorem dX12_store_136 : decode cX12_store 136 = .ok (.iastore, 1) := by decide +kernel
theorem dX12_store_137 : decode cX12_store 137 = .ok (.aload_n 0, 1) := by decide +kernel
theorem dX12_store_138 : decode cX12_store 138 = .ok (.getfield 21, 3) := by decide +kernel
theorem dX12_store_141 : decode cX12_store 141 = .ok (.iload 5, 2) := by decide +kernel
theorem dX12_store_143 : decode cX12_store 143 = .ok (.aload_n 0, 1) := by decide +kernel
theorem dX12_store_144 : decode cX12_store 144 = .ok (.getfield 21, 3) := by decide +kernel
theorem dX12_store_147 : decode cX12_store 147 = .ok (.iload 5, 2) := by decide +kernel
theorem dX12_store_149 : decode cX12_store 149 = .ok (.iconst 1, 1) := by decide +kernel
theorem dX12_store_150 : decode cX12_store 150 = .ok (.isub, 1) := by decide +kernel
theorem dX12_store_151 : decode cX12_store 151 = .ok (.aaload, 1) := by decide +kernel
theorem dX12_store_152 : decode cX12_store 152 = .ok (.aastore, 1) := by decide +kernel
theorem dX12_store_153 : decode cX12_store 153 = .ok (.iinc 5 (-1), 3) := by decide +kernel
theorem dX12_store_156 : decode cX12_store 156 = .ok (.goto (-42), 3) := by decide +kernel
theorem dX12_store_159 : decode cX12_store 159 = .ok (.aload_n 0, 1) := by decide +kernel
theorem dX12_store_160 : decode cX12_store 160 = .ok (.dup, 1) := by decide +kernel
theorem dX12_store_161 : decode cX12_store 161 = .ok (.getfield 73, 3) := by decide +kernel
theorem dX12_store_164 : decode cX12_store 164 = .ok (.iconst 1, 1) := by decide +kernel
theorem dX12_store_165 : decode cX12_store 165 = .ok (.iadd, 1) := by decide +kernel
theorem dX12_store_166 : decode cX12_store 166 = .ok (.putfield 73, 3) := by decide +kernel
theorem dX12_store_169 : decode cX12_store 169 = .ok (.aload_n 0, 1) := by decide +kernel
theorem dX12_store_170 : decode cX12_store 170 = .ok (.getfield 16, 3) := by decide +kernel
theorem dX12_store_173 : decode cX12_store 173 = .ok (.iload 4, 2) := by decide +kernel
theorem dX12_store_175 : decode cX12_store 175 = .ok (.iload_n 3, 1) := by decide +kernel
theorem dX12_store_176 : decode cX12_store 176 = .ok (.iastore, 1) := by decide +kernel
theorem dX12_store_177 : decode cX12_store 177 = .ok (.aload_n 0, 1) := by decide +kernel
theorem dX12_store_178 : decode cX12_store 178 = .ok (.getfield 21, 3) := by decide +kernel
theorem dX12_store_181 : decode cX12_store 181 = .ok (.iload 4, 2) := by decide +kernel
theorem dX12_store_183 : decode cX12_store 183 = .ok (.aload_n 2, 1) := by decide +kernel
theorem dX12_store_184 : decode cX12_store 184 = .ok (.aastore, 1) := by decide +kernel
theorem dX12_store_185 : decode cX12_store 185 = .ok (.aload_n 0, 1) := by decide +kernel
theorem dX12_store_186 : decode cX12_store 186 = .ok (.getfield 10, 3) := by decide +kernel
theorem dX12_store_189 : decode cX12_store 189 = .ok (.iload_n 3, 1) := by decide +kernel
theorem dX12_store_190 : decode cX12_store 190 = .ok (.invokevirtual 76, 3) := by decide +kernel
theorem dX12_store_193 : decode cX12_store 193 = .ok (.aload_n 0, 1) := by decide +kernel
theorem dX12_store_194 : decode cX12_store 194 = .ok (.getfield 73, 3) := by decide +kernel
theorem dX12_store_197 : decode cX12_store 197 = .ok (.if_icmp .ne 7, 3) := by decide +kernel
theorem dX12_store_200 : decode cX12_store 200 = .ok (.iconst 1, 1) := by decide +kernel
theorem dX12_store_201 : decode cX12_store 201 = .ok (.goto 4, 3) := by decide +kernel
theorem dX12_store_204 : decode cX12_store 204 = .ok (.iconst 0, 1) := by decide +kernel
theorem dX12_store_205 : decode cX12_store 205 = .ok (.ireturn, 1) := by decide +kernel
set_option maxRecDepth 20000 in
theorem ggX12_fill_X12_store : GoodIn wsX12_fill wsX12_store := goodIn_ca (goodIn_ca (goodIn_r _ [5, 6, 7, 8, 9, 10, 11, 12, 13, 4, 14, 15, 16, 17, 18, 19, 20, 21, 22, 23, 24, 25, 26, 27, 28, 29, 30, 31, 32, 33, 34, 35, 36, 37, 38, 39, 40, 41, 42, 43, 44, 45, 46, 47, 48, 49, 50, 51, 52, 53, 54, 55, 56, 57, 58, 59, 60, 61, 62, 63, 64, 65, 66, 67, 68, 69, 70, 71, 72, 73, 74, 75, 76, 77, 78, 79, 80, 81, 82, 83, 84, 85, 86, 87, 88, 89, 90, 91, 92, 93, 94, 95, 96, 97, 98, 99, 100, 101, 102, 103, 104, 105, 106, 107, 108, 109, 110, 111, 112, 113, 114, 115, 116, 117, 118, 119, 120, 121, 122, 123, 124, 125, 126, 127, 128, 129, 130, 131, 132, 133, 134, 135, 136, 137, 138, 139, 140, 141, 142, 143, 144, 145, 146, 147, 148, 149, 150, 151, 152, 153, 154, 155, 156, 157, 158, 159, 160, 161, 162, 163, 164, 165, 166, 167, 168, 169, 170, 171, 172, 173, 174, 175, 176, 177, 178, 179, 180, 181, 182, 183, 184, 185, 186, 187, 188, 189, 190, 191, 192, 193, 194, 195, 196] (by decide +kernel) (by decide +kernel)) (goodIn_sub (fun _ h => List.mem_cons_of_mem _ (List.mem_append_left _ (List.mem_append_right _ h))) (by decide +kernel))) (goodIn_sub (fun _ h => List.mem_cons_of_mem _ (List.mem_append_right _ h)) (by decide +kernel))
set_option maxRecDepth 20000 in
theorem gX12_fill_X12_store : GoodIn wsX12_fill (wsV RX12 86 RX12 yX12_store wsX12_store) := goodIn_app (goodIn_of _ (by decide +kernel)) ggX12_fill_X12_store
theorem dX12_fill_0 : decode cX12_fill 0 = .ok (.iconst 0, 1) := by decide +kernel
theorem dX12_fill_1 : decode cX12_fill 1 = .ok (.istore_n 3, 1) := by decide +kernel
theorem dX12_fill_2 : decode cX12_fill 2 = .ok (.iload_n 3, 1) := by decide +kernel
theorem dX12_fill_3 : decode cX12_fill 3 = .ok (.iload_n 1, 1) := by decide +kernel
theorem dX12_fill_4 : decode cX12_fill 4 = .ok (.if_icmp .ge 19, 3) := by decide +kernel
theorem dX12_fill_7 : decode cX12_fill 7 = .ok (.aload_n 0, 1) := by decide +kernel
theorem dX12_fill_8 : decode cX12_fill 8 = .ok (.iload_n 2, 1) := by decide +kernel
theorem dX12_fill_9 : decode cX12_fill 9 = .ok (.invokevirtual 86, 3) := by decide +kernel
theorem dX12_fill_12 : decode cX12_fill 12 = .ok (.ifCond .ne 5, 3) := by decide +kernel
theorem dX12_fill_15 : decode cX12_fill 15 = .ok (.iconst 0, 1) := by decide +kernel
theorem dX12_fill_16 : decode cX12_fill 16 = .ok (.ireturn, 1) := by decide +kernel
theorem dX12_fill_17 : decode cX12_fill 17 = .ok (.iinc 3 1, 3) := by decide +kernel
theorem dX12_fill_20 : decode cX12_fill 20 = .ok (.goto (-18), 3) := by decide +kernel
theorem dX12_fill_23 : decode cX12_fill 23 = .ok (.iconst 1, 1) := by decide +kernel
theorem dX12_fill_24 : decode cX12_fill 24 = .ok (.ireturn, 1) := by decide +kernel
