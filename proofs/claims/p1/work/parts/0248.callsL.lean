set_option maxRecDepth 20000 in
theorem ggL_product_X11_product : GoodIn wsL_product wsX11_product := goodIn_ca (goodIn_r _ [6, 7, 8, 9, 10, 11, 5, 12, 13, 14, 15, 16, 17, 18, 19, 20, 21, 22, 23, 24, 25, 26, 27, 28, 29, 30] (by decide +kernel) (by decide +kernel)) (goodIn_sub (fun _ h => List.mem_cons_of_mem _ (List.mem_append_right _ h)) (by decide +kernel))
set_option maxRecDepth 20000 in
theorem gL_product_X11_product : GoodIn wsL_product (wsV RL 7 RX11 yX11_product wsX11_product) := goodIn_app (goodIn_of _ (by decide +kernel)) ggL_product_X11_product
set_option maxRecDepth 20000 in
theorem ggL_inverse_X11_inverse : GoodIn wsL_inverse wsX11_inverse := goodIn_ca (goodIn_r _ [6, 7, 8, 9, 10, 11, 5, 12, 13, 14, 15, 16, 17, 18, 19, 20, 21, 22, 23, 24, 25, 26, 27, 28, 29, 30] (by decide +kernel) (by decide +kernel)) (goodIn_sub (fun _ h => List.mem_cons_of_mem _ (List.mem_append_right _ h)) (by decide +kernel))
set_option maxRecDepth 20000 in
theorem gL_inverse_X11_inverse : GoodIn wsL_inverse (wsV RL 15 RX11 yX11_inverse wsX11_inverse) := goodIn_app (goodIn_of _ (by decide +kernel)) ggL_inverse_X11_inverse
set_option maxRecDepth 20000 in
theorem ggL_power_X11_power : GoodIn wsL_power wsX11_power := goodIn_ca (goodIn_r _ [6, 7, 8, 9, 10, 11, 5, 12, 13, 14, 15, 16, 17, 18, 19, 20, 21, 22, 23, 24, 25, 26, 27, 28, 29, 30] (by decide +kernel) (by decide +kernel)) (goodIn_sub (fun _ h => List.mem_cons_of_mem _ (List.mem_append_right _ h)) (by decide +kernel))
set_option maxRecDepth 20000 in
theorem gL_power_X11_power : GoodIn wsL_power (wsV RL 19 RX11 yX11_power wsX11_power) := goodIn_app (goodIn_of _ (by decide +kernel)) ggL_power_X11_power
set_option maxRecDepth 20000 in
theorem ggL_coefficient_X11_coefficient : GoodIn wsL_coefficient wsX11_coefficient := goodIn_ca (goodIn_r _ [6, 7, 8, 9, 10, 11, 12, 13, 14, 15, 16, 17, 18, 19, 20, 21, 22, 23, 24, 25, 26, 27, 28, 29, 30, 31] (by decide +kernel) (by decide +kernel)) (goodIn_sub (fun _ h => List.mem_cons_of_mem _ (List.mem_append_right _ h)) (by decide +kernel))
set_option maxRecDepth 20000 in
theorem gL_coefficient_X11_coefficient : GoodIn wsL_coefficient (wsV RL 22 RX11 yX11_coefficient wsX11_coefficient) := goodIn_app (goodIn_of _ (by decide +kernel)) ggL_coefficient_X11_coefficient
set_option maxRecDepth 20000 in
theorem ggL_write_X11_write : GoodIn wsL_write wsX11_write := goodIn_ca (goodIn_ca (goodIn_r _ [7, 8, 9, 10, 11, 12, 13, 14, 6, 15, 16, 17, 18, 19, 20, 21, 22, 23, 24, 25, 26, 27, 28, 29, 30, 31, 32, 33, 34, 35, 36, 37, 38, 39, 40, 41, 42] (by decide +kernel) (by decide +kernel)) (goodIn_sub (fun _ h => List.mem_cons_of_mem _ (List.mem_append_left _ (List.mem_append_right _ h))) (by decide +kernel))) (goodIn_sub (fun _ h => List.mem_cons_of_mem _ (List.mem_append_right _ h)) (by decide +kernel))
set_option maxRecDepth 20000 in
theorem gL_write_X11_write : GoodIn wsL_write (wsV RL 27 RX11 yX11_write wsX11_write) := goodIn_app (goodIn_of _ (by decide +kernel)) ggL_write_X11_write
set_option maxRecDepth 20000 in
theorem ggL_noise_X11_noise : GoodIn wsL_noise wsX11_noise := goodIn_ca (goodIn_ca (goodIn_r _ [7, 8, 9, 10, 11, 12, 13, 14, 15, 6, 16, 17, 18, 19, 20, 21, 22, 23, 24, 25, 26, 27, 28, 29, 30, 31, 32, 33, 34, 35, 36, 37, 38, 39, 40] (by decide +kernel) (by decide +kernel)) (goodIn_sub (fun _ h => List.mem_cons_of_mem _ (List.mem_append_left _ (List.mem_append_right _ h))) (by decide +kernel))) (goodIn_sub (fun _ h => List.mem_cons_of_mem _ (List.mem_append_right _ h)) (by decide +kernel))
set_option maxRecDepth 20000 in
theorem gL_noise_X11_noise : GoodIn wsL_noise (wsV RL 32 RX11 yX11_noise wsX11_noise) := goodIn_app (goodIn_of _ (by decide +kernel)) ggL_noise_X11_noise
set_option maxRecDepth 20000 in
theorem ggL_cutSheet_X11_cutSheet : GoodIn wsL_cutSheet wsX11_cutSheet := goodIn_ca (goodIn_r _ [6, 7, 8, 9, 10, 11, 12, 13, 14, 15, 16, 17, 18, 19, 20, 21, 22, 23, 24, 25, 26, 27, 28, 29, 30, 31] (by decide +kernel) (by decide +kernel)) (goodIn_sub (fun _ h => List.mem_cons_of_mem _ (List.mem_append_right _ h)) (by decide +kernel))
set_option maxRecDepth 20000 in
theorem gL_cutSheet_X11_cutSheet : GoodIn wsL_cutSheet (wsV RL 35 RX11 yX11_cutSheet wsX11_cutSheet) := goodIn_app (goodIn_of _ (by decide +kernel)) ggL_cutSheet_X11_cutSheet
set_option maxRecDepth 20000 in
theorem ggL_store_X11_store : GoodIn wsL_store wsX11_store := goodIn_ca (goodIn_ca (goodIn_r _ [7, 8, 9, 10, 11, 12, 13, 14, 6, 15, 16, 17, 18, 19, 20, 21, 22, 23, 24, 25, 26, 27, 28, 29, 30, 31, 32, 33, 34, 35, 36, 37, 38, 39, 40, 41, 42, 43, 44, 45, 46, 47, 48, 49, 50, 51, 52, 53, 54, 55, 56, 57, 58, 59, 60, 61, 62, 63, 64, 65, 66, 67, 68, 69, 70, 71, 72, 73, 74, 75, 76, 77, 78, 79, 80, 81, 82, 83, 84, 85, 86, 87, 88, 89, 90, 91, 92, 93, 94, 95, 96, 97, 98, 99, 100, 101, 102, 103, 104, 105, 106, 107, 108, 109, 110, 111, 112, 113, 114, 115, 116, 117, 118, 119, 120, 121, 122, 123, 124, 125, 126, 127, 128, 129, 130, 131, 132, 133, 134, 135, 136, 137, 138] (by decide +kernel) (by decide +kernel)) (goodIn_sub (fun _ h => List.mem_cons_of_mem _ (List.mem_append_left _ (List.mem_append_right _ h))) (by decide +kernel))) (goodIn_sub (fun _ h => List.mem_cons_of_mem _ (List.mem_append_right _ h)) (by decide +kernel))
set_option maxRecDepth 20000 in
theorem gL_store_X11_store : GoodIn wsL_store (wsV RL 38 RX11 yX11_store wsX11_store) := goodIn_app (goodIn_of _ (by decide +kernel)) ggL_store_X11_store
set_option maxRecDepth 20000 in
theorem ggL_keyOf_X11_keyOf : GoodIn wsL_keyOf wsX11_keyOf := goodIn_ca (goodIn_r _ [6, 7, 8, 9, 5, 10, 11, 12, 13, 14, 15, 16, 17, 18, 19, 20, 21, 22, 23, 24, 25, 26, 27, 28, 29, 30, 31, 32, 33, 34] (by decide +kernel) (by decide +kernel)) (goodIn_sub (fun _ h => List.mem_cons_of_mem _ (List.mem_append_right _ h)) (by decide +kernel))
set_option maxRecDepth 20000 in
theorem gL_keyOf_X11_keyOf : GoodIn wsL_keyOf (wsV RL 41 RX11 yX11_keyOf wsX11_keyOf) := goodIn_app (goodIn_of _ (by decide +kernel)) ggL_keyOf_X11_keyOf
set_option maxRecDepth 20000 in
theorem ggL_lengthOf_X11_lengthOf : GoodIn wsL_lengthOf wsX11_lengthOf := goodIn_ca (goodIn_r _ [6, 7, 8, 9, 5, 10, 11, 12, 13, 14, 15, 16, 17, 18, 19, 20, 21, 22, 23, 24, 25, 26, 27, 28, 29, 30, 31, 32, 33, 34, 35, 36, 37, 38, 39, 40, 41, 42] (by decide +kernel) (by decide +kernel)) (goodIn_sub (fun _ h => List.mem_cons_of_mem _ (List.mem_append_right _ h)) (by decide +kernel))
set_option maxRecDepth 20000 in
theorem gL_lengthOf_X11_lengthOf : GoodIn wsL_lengthOf (wsV RL 44 RX11 yX11_lengthOf wsX11_lengthOf) := goodIn_app (goodIn_of _ (by decide +kernel)) ggL_lengthOf_X11_lengthOf
set_option maxRecDepth 20000 in
theorem ggL_contentAt_X11_contentAt : GoodIn wsL_contentAt wsX11_contentAt := goodIn_ca (goodIn_r _ [6, 7, 8, 9, 5, 10, 11, 12, 13, 14, 15, 16, 17, 18, 19, 20, 21, 22, 23, 24, 25, 26, 27, 28, 29, 30, 31, 32, 33, 34, 35, 36, 37, 38, 39, 40, 41, 42, 43, 44, 45, 46, 47, 48, 49, 50] (by decide +kernel) (by decide +kernel)) (goodIn_sub (fun _ h => List.mem_cons_of_mem _ (List.mem_append_right _ h)) (by decide +kernel))
set_option maxRecDepth 20000 in
theorem gL_contentAt_X11_contentAt : GoodIn wsL_contentAt (wsV RL 47 RX11 yX11_contentAt wsX11_contentAt) := goodIn_app (goodIn_of _ (by decide +kernel)) ggL_contentAt_X11_contentAt
set_option maxRecDepth 20000 in
theorem ggL_checkOf_X11_checkOf : GoodIn wsL_checkOf wsX11_checkOf := goodIn_ca (goodIn_r _ [6, 7, 8, 9, 5, 10, 11, 12, 13, 14, 15, 16, 17, 18, 19, 20, 21, 22, 23, 24, 25, 26, 27, 28, 29, 30, 31, 32, 33, 34] (by decide +kernel) (by decide +kernel)) (goodIn_sub (fun _ h => List.mem_cons_of_mem _ (List.mem_append_right _ h)) (by decide +kernel))
set_option maxRecDepth 20000 in
theorem gL_checkOf_X11_checkOf : GoodIn wsL_checkOf (wsV RL 50 RX11 yX11_checkOf wsX11_checkOf) := goodIn_app (goodIn_of _ (by decide +kernel)) ggL_checkOf_X11_checkOf
set_option maxRecDepth 20000 in
theorem ggL_packedLength_X11_packedLength : GoodIn wsL_packedLength wsX11_packedLength := goodIn_ca (goodIn_r _ [6, 7, 8, 9, 5, 10, 11, 12, 13, 14, 15, 16, 17, 18, 19, 20, 21, 22, 23, 24, 25, 26, 27, 28, 29, 30, 31, 32, 33, 34, 35, 36, 37, 38, 39, 40, 41, 42] (by decide +kernel) (by decide +kernel)) (goodIn_sub (fun _ h => List.mem_cons_of_mem _ (List.mem_append_right _ h)) (by decide +kernel))
set_option maxRecDepth 20000 in
theorem gL_packedLength_X11_packedLength : GoodIn wsL_packedLength (wsV RL 53 RX11 yX11_packedLength wsX11_packedLength) := goodIn_app (goodIn_of _ (by decide +kernel)) ggL_packedLength_X11_packedLength
set_option maxRecDepth 20000 in
theorem ggL_packedAt_X11_packedAt : GoodIn wsL_packedAt wsX11_packedAt := goodIn_ca (goodIn_r _ [6, 7, 8, 9, 5, 10, 11, 12, 13, 14, 15, 16, 17, 18, 19, 20, 21, 22, 23, 24, 25, 26, 27, 28, 29, 30, 31, 32, 33, 34, 35, 36, 37, 38, 39, 40, 41, 42, 43, 44, 45, 46, 47, 48, 49, 50] (by decide +kernel) (by decide +kernel)) (goodIn_sub (fun _ h => List.mem_cons_of_mem _ (List.mem_append_right _ h)) (by decide +kernel))
set_option maxRecDepth 20000 in
theorem gL_packedAt_X11_packedAt : GoodIn wsL_packedAt (wsV RL 56 RX11 yX11_packedAt wsX11_packedAt) := goodIn_app (goodIn_of _ (by decide +kernel)) ggL_packedAt_X11_packedAt
set_option maxRecDepth 20000 in
theorem ggL_build_X11_build : GoodIn wsL_build wsX11_build := goodIn_ca (goodIn_r _ [6, 7, 8, 9, 10, 11, 12, 13, 14, 15, 16, 17, 18, 19, 20, 21, 22, 23, 24, 25, 26, 27, 28, 29, 30, 31, 32, 33, 34, 35, 36, 37, 38, 39, 40, 41, 42, 43, 44, 45, 46, 47, 48, 49, 50, 51, 52, 53, 54, 55, 56, 57, 58, 59, 60, 61, 62, 63, 64, 65, 66, 67, 68, 69, 70, 71, 72, 73, 74, 75, 76, 77, 78, 79, 80, 81, 82, 83, 84, 85, 86, 87, 88, 89, 90, 91, 92, 93, 94, 95, 96, 97, 98, 99, 100, 101, 102, 103, 104, 105, 106, 107, 108, 109, 110, 111, 112, 113, 114, 115, 116, 5, 117, 118, 119, 120, 121, 122, 123, 124, 125, 126, 127, 128, 129, 130, 131, 132, 133, 134, 135, 136, 137, 138, 139, 140, 141, 142, 143, 144, 145, 146, 147, 148, 149, 150, 151, 152, 153, 154, 155, 156, 157, 158, 159, 160, 161, 162, 163, 164, 165, 166, 167, 168, 169, 170, 171, 172, 173, 174, 175, 176, 177, 178, 179, 180, 181, 182, 183, 184, 185, 186, 187, 188, 189, 190, 191, 192, 193, 194, 195, 196, 197, 198, 199, 200, 201, 202, 203, 204, 205, 206, 207, 208, 209, 210, 211, 212, 213, 214, 215, 216, 217, 218, 219, 220, 221, 222, 223, 224, 225, 226] (by decide +kernel) (by decide +kernel)) (goodIn_sub (fun _ h => List.mem_cons_of_mem _ (List.mem_append_right _ h)) (by decide +kernel))
set_option maxRecDepth 20000 in
theorem gL_build_X11_build : GoodIn wsL_build (wsV RL 59 RX11 yX11_build wsX11_build) := goodIn_app (goodIn_of _ (by decide +kernel)) ggL_build_X11_build
set_option maxRecDepth 20000 in
theorem ggL_sizeOf_X11_sizeOf : GoodIn wsL_sizeOf wsX11_sizeOf := goodIn_ca (goodIn_r _ [6, 7, 8, 9, 5, 10, 11, 12, 13, 14, 15, 16, 17, 18, 19, 20, 21, 22, 23, 24, 25, 26, 27, 28, 29, 30, 31, 32, 33, 34, 35, 36, 37, 38, 39, 40, 41, 42, 43, 44, 45, 46, 47, 48, 49, 50] (by decide +kernel) (by decide +kernel)) (goodIn_sub (fun _ h => List.mem_cons_of_mem _ (List.mem_append_right _ h)) (by decide +kernel))
set_option maxRecDepth 20000 in
theorem gL_sizeOf_X11_sizeOf : GoodIn wsL_sizeOf (wsV RL 62 RX11 yX11_sizeOf wsX11_sizeOf) := goodIn_app (goodIn_of _ (by decide +kernel)) ggL_sizeOf_X11_sizeOf
set_option maxRecDepth 20000 in
theorem ggL_byteAt_X11_byteAt : GoodIn wsL_byteAt wsX11_byteAt := goodIn_ca (goodIn_r _ [6, 7, 8, 9, 5, 10, 11, 12, 13, 14, 15, 16, 17, 18, 19, 20, 21, 22, 23, 24, 25, 26, 27, 28, 29, 30, 31, 32, 33, 34, 35, 36, 37, 38, 39, 40, 41, 42, 43, 44, 45, 46, 47, 48, 49, 50, 51, 52, 53, 54, 55, 56, 57, 58, 59, 60, 61] (by decide +kernel) (by decide +kernel)) (goodIn_sub (fun _ h => List.mem_cons_of_mem _ (List.mem_append_right _ h)) (by decide +kernel))
set_option maxRecDepth 20000 in
theorem gL_byteAt_X11_byteAt : GoodIn wsL_byteAt (wsV RL 65 RX11 yX11_byteAt wsX11_byteAt) := goodIn_app (goodIn_of _ (by decide +kernel)) ggL_byteAt_X11_byteAt
set_option maxRecDepth 20000 in
theorem ggL_spoil_X11_spoil : GoodIn wsL_spoil wsX11_spoil := goodIn_ca (goodIn_ca (goodIn_r _ [7, 8, 9, 10, 11, 12, 13, 14, 6, 15, 16, 17, 18, 19, 20, 21, 22, 23, 24, 25, 26, 27, 28, 29, 30, 31, 32, 33, 34, 35, 36, 37, 38, 39, 40, 41, 42, 43, 44, 45, 46, 47, 48, 49, 50, 51, 52, 53, 54, 55, 56, 57, 58, 59, 60, 61, 62, 63, 64, 65, 66, 67, 68, 69, 70, 71, 72, 73, 74, 75, 76, 77, 78] (by decide +kernel) (by decide +kernel)) (goodIn_sub (fun _ h => List.mem_cons_of_mem _ (List.mem_append_left _ (List.mem_append_right _ h))) (by decide +kernel))) (goodIn_sub (fun _ h => List.mem_cons_of_mem _ (List.mem_append_right _ h)) (by decide +kernel))
set_option maxRecDepth 20000 in
theorem gL_spoil_X11_spoil : GoodIn wsL_spoil (wsV RL 68 RX11 yX11_spoil wsX11_spoil) := goodIn_app (goodIn_of _ (by decide +kernel)) ggL_spoil_X11_spoil
set_option maxRecDepth 20000 in
theorem ggL_sign_X11_sign : GoodIn wsL_sign wsX11_sign := goodIn_ca (goodIn_ca (goodIn_r _ [7, 8, 9, 10, 11, 12, 6, 13, 14, 15, 16, 17, 18, 19, 20, 21, 22, 23, 24, 25, 26, 27, 28, 29, 30, 31, 32, 33, 34, 35, 36, 37, 38, 39, 40, 41, 42, 43, 44, 45, 46, 47, 48, 49, 50, 51, 52, 53, 54, 55, 56, 57, 58, 59, 60, 61, 62, 63, 64, 65, 66, 67, 68, 69, 70, 71, 72, 73, 74, 75, 76, 77, 78, 79, 80, 81, 82, 83, 84, 85, 86, 87, 88, 89, 90, 91, 92, 93] (by decide +kernel) (by decide +kernel)) (goodIn_sub (fun _ h => List.mem_cons_of_mem _ (List.mem_append_left _ (List.mem_append_right _ h))) (by decide +kernel))) (goodIn_sub (fun _ h => List.mem_cons_of_mem _ (List.mem_append_right _ h)) (by decide +kernel))
set_option maxRecDepth 20000 in
theorem gL_sign_X11_sign : GoodIn wsL_sign (wsV RL 72 RX11 yX11_sign wsX11_sign) := goodIn_app (goodIn_of _ (by decide +kernel)) ggL_sign_X11_sign
set_option maxRecDepth 20000 in
theorem ggL_cut_X11_cut : GoodIn wsL_cut wsX11_cut := goodIn_ca (goodIn_ca (goodIn_r _ [7, 8, 9, 10, 11, 12, 6, 13, 14, 15, 16, 17, 18, 19, 20, 21, 22, 23, 24, 25, 26, 27, 28, 29, 30, 31, 32, 33, 34, 35, 36, 37, 38, 39, 40, 41, 42, 43, 44, 45, 46, 47, 48, 49, 50, 51, 52, 53, 54, 55, 56, 57, 58, 59, 60, 61, 62, 63, 64, 65, 66, 67, 68, 69, 70] (by decide +kernel) (by decide +kernel)) (goodIn_sub (fun _ h => List.mem_cons_of_mem _ (List.mem_append_left _ (List.mem_append_right _ h))) (by decide +kernel))) (goodIn_sub (fun _ h => List.mem_cons_of_mem _ (List.mem_append_right _ h)) (by decide +kernel))
set_option maxRecDepth 20000 in
theorem gL_cut_X11_cut : GoodIn wsL_cut (wsV RL 75 RX11 yX11_cut wsX11_cut) := goodIn_app (goodIn_of _ (by decide +kernel)) ggL_cut_X11_cut
set_option maxRecDepth 20000 in
theorem ggL_lose_X11_lose : GoodIn wsL_lose wsX11_lose := goodIn_ca (goodIn_r _ [6, 7, 8, 9, 5, 10, 11, 12, 13, 14, 15, 16, 17, 18, 19, 20, 21, 22, 23, 24, 25, 26, 27, 28, 29, 30, 31, 32, 33, 34, 35, 36, 37, 38, 39, 40, 41, 42, 43, 44, 45, 46, 47, 48, 49, 50, 51, 52, 53, 54, 55] (by decide +kernel) (by decide +kernel)) (goodIn_sub (fun _ h => List.mem_cons_of_mem _ (List.mem_append_right _ h)) (by decide +kernel))
set_option maxRecDepth 20000 in
theorem gL_lose_X11_lose : GoodIn wsL_lose (wsV RL 78 RX11 yX11_lose wsX11_lose) := goodIn_app (goodIn_of _ (by decide +kernel)) ggL_lose_X11_lose
set_option maxRecDepth 20000 in
theorem ggL_exchange_X11_exchange : GoodIn wsL_exchange wsX11_exchange := goodIn_ca (goodIn_r _ [6, 7, 8, 9, 10, 5, 11, 12, 13, 14, 15, 16, 17, 18, 19, 20, 21, 22, 23, 24, 25, 26, 27, 28, 29, 30, 31, 32, 33, 34, 35, 36, 37, 38, 39, 40, 41, 42, 43, 44, 45, 46] (by decide +kernel) (by decide +kernel)) (goodIn_sub (fun _ h => List.mem_cons_of_mem _ (List.mem_append_right _ h)) (by decide +kernel))
set_option maxRecDepth 20000 in
theorem gL_exchange_X11_exchange : GoodIn wsL_exchange (wsV RL 82 RX11 yX11_exchange wsX11_exchange) := goodIn_app (goodIn_of _ (by decide +kernel)) ggL_exchange_X11_exchange
set_option maxRecDepth 20000 in
theorem ggL_copy_X11_copy : GoodIn wsL_copy wsX11_copy := goodIn_ca (goodIn_r _ [6, 7, 8, 9, 5, 10, 11, 12, 13, 14, 15, 16, 17, 18, 19, 20, 21, 22, 23, 24, 25, 26, 27, 28, 29, 30, 31, 32, 33, 34, 35, 36, 37, 38, 39, 40, 41, 42, 43, 44, 45, 46, 47, 48, 49, 50, 51, 52, 53, 54, 55, 56, 57, 58, 59, 60, 61, 62, 63, 64, 65, 66, 67, 68, 69, 70, 71, 72, 73, 74, 75, 76, 77, 78, 79, 80, 81, 82, 83, 84, 85] (by decide +kernel) (by decide +kernel)) (goodIn_sub (fun _ h => List.mem_cons_of_mem _ (List.mem_append_right _ h)) (by decide +kernel))
set_option maxRecDepth 20000 in
theorem gL_copy_X11_copy : GoodIn wsL_copy (wsV RL 85 RX11 yX11_copy wsX11_copy) := goodIn_app (goodIn_of _ (by decide +kernel)) ggL_copy_X11_copy
set_option maxRecDepth 20000 in
theorem ggL_isSound_X11_isSound : GoodIn wsL_isSound wsX11_isSound := goodIn_ca (goodIn_r _ [6, 7, 8, 9, 5, 10, 11, 12, 13, 14, 15, 16, 17, 18, 19, 20, 21, 22, 23, 24, 25, 26, 27, 28, 29, 30, 31, 32, 33, 34, 35, 36, 37, 38, 39, 40, 41, 42, 43, 44, 45, 46, 47, 48, 49, 50, 51, 52, 53, 54, 55, 56, 57, 58, 59, 60, 61, 62, 63, 64, 65, 66, 67, 68, 69, 70, 71, 72, 73, 74, 75, 76, 77, 78, 79, 80, 81, 82, 83, 84, 85, 86, 87, 88, 89, 90, 91, 92, 93, 94, 95, 96, 97, 98, 99, 100, 101, 102] (by decide +kernel) (by decide +kernel)) (goodIn_sub (fun _ h => List.mem_cons_of_mem _ (List.mem_append_right _ h)) (by decide +kernel))
set_option maxRecDepth 20000 in
theorem gL_isSound_X11_isSound : GoodIn wsL_isSound (wsV RL 88 RX11 yX11_isSound wsX11_isSound) := goodIn_app (goodIn_of _ (by decide +kernel)) ggL_isSound_X11_isSound
set_option maxRecDepth 20000 in
theorem ggL_numberOf_X11_numberOf : GoodIn wsL_numberOf wsX11_numberOf := goodIn_ca (goodIn_r _ [6, 7, 8, 9, 10, 5, 11, 12, 13, 14, 15, 16, 17, 18, 19, 20, 21, 22, 23, 24, 25, 26, 27, 28, 29, 30, 31, 32, 33, 34, 35, 36, 37, 38, 39, 40, 41, 42, 43, 44, 45, 46, 47, 48, 49, 50, 51, 52, 53, 54, 55, 56, 57, 58, 59, 60, 61, 62, 63, 64, 65, 66, 67, 68, 69, 70, 71, 72, 73, 74, 75, 76, 77, 78, 79, 80, 81, 82, 83, 84, 85, 86, 87, 88, 89, 90, 91, 92, 93, 94, 95, 96, 97, 98, 99, 100, 101, 102, 103, 104, 105, 106, 107, 108, 109, 110, 111, 112, 113, 114, 115, 116, 117, 118, 119, 120, 121, 122, 123, 124] (by decide +kernel) (by decide +kernel)) (goodIn_sub (fun _ h => List.mem_cons_of_mem _ (List.mem_append_right _ h)) (by decide +kernel))
set_option maxRecDepth 20000 in
theorem gL_numberOf_X11_numberOf : GoodIn wsL_numberOf (wsV RL 91 RX11 yX11_numberOf wsX11_numberOf) := goodIn_app (goodIn_of _ (by decide +kernel)) ggL_numberOf_X11_numberOf
set_option maxRecDepth 20000 in
theorem ggL_repair_X11_repair : GoodIn wsL_repair wsX11_repair := goodIn_ca (goodIn_r _ [6, 7, 8, 9, 10, 11, 5, 12, 13, 14, 15, 16, 17, 18, 19, 20, 21, 22, 23, 24, 25, 26, 27, 28, 29, 30, 31, 32, 33, 34, 35, 36, 37, 38, 39, 40, 41, 42, 43, 44, 45, 46, 47, 48, 49, 50, 51, 52, 53, 54, 55, 56, 57, 58, 59, 60, 61, 62, 63, 64, 65, 66, 67, 68, 69, 70, 71, 72, 73, 74, 75, 76, 77, 78, 79, 80, 81, 82, 83, 84, 85, 86, 87, 88, 89, 90, 91, 92, 93, 94, 95, 96, 97, 98, 99, 100, 101, 102, 103, 104, 105, 106, 107, 108, 109, 110, 111, 112, 113, 114, 115, 116, 117, 118, 119, 120, 121, 122, 123, 124, 125, 126, 127, 128, 129, 130, 131, 132, 133, 134, 135, 136, 137, 138, 139, 140, 141, 142, 143, 144, 145, 146, 147, 148, 149, 150, 151, 152, 153, 154, 155, 156, 157, 158, 159, 160, 161, 162] (by decide +kernel) (by decide +kernel)) (goodIn_sub (fun _ h => List.mem_cons_of_mem _ (List.mem_append_right _ h)) (by decide +kernel))
set_option maxRecDepth 20000 in
theorem gL_repair_X11_repair : GoodIn wsL_repair (wsV RL 94 RX11 yX11_repair wsX11_repair) := goodIn_app (goodIn_of _ (by decide +kernel)) ggL_repair_X11_repair
set_option maxRecDepth 20000 in
theorem ggL_opened_X11_opened : GoodIn wsL_opened wsX11_opened := goodIn_ca (goodIn_r _ [6, 7, 8, 9, 10, 5, 11, 12, 13, 14, 15, 16, 17, 18, 19, 20, 21, 22, 23, 24, 25, 26, 27, 28, 29, 30, 31, 32, 33, 34] (by decide +kernel) (by decide +kernel)) (goodIn_sub (fun _ h => List.mem_cons_of_mem _ (List.mem_append_right _ h)) (by decide +kernel))
set_option maxRecDepth 20000 in
theorem gL_opened_X11_opened : GoodIn wsL_opened (wsV RL 98 RX11 yX11_opened wsX11_opened) := goodIn_app (goodIn_of _ (by decide +kernel)) ggL_opened_X11_opened
set_option maxRecDepth 20000 in
theorem ggL_streamAt_X11_streamAt : GoodIn wsL_streamAt wsX11_streamAt := goodIn_ca (goodIn_ca (goodIn_r _ [7, 8, 9, 10, 11, 6, 12, 13, 14, 15, 16, 17, 18, 19, 20, 21, 22, 23, 24, 25, 26, 27, 28, 29, 30, 31, 32, 33, 34, 35, 36, 37, 38, 39, 40, 41, 42, 43, 44, 45] (by decide +kernel) (by decide +kernel)) (goodIn_sub (fun _ h => List.mem_cons_of_mem _ (List.mem_append_left _ (List.mem_append_right _ h))) (by decide +kernel))) (goodIn_sub (fun _ h => List.mem_cons_of_mem _ (List.mem_append_right _ h)) (by decide +kernel))
set_option maxRecDepth 20000 in
theorem gL_streamAt_X11_streamAt : GoodIn wsL_streamAt (wsV RL 101 RX11 yX11_streamAt wsX11_streamAt) := goodIn_app (goodIn_of _ (by decide +kernel)) ggL_streamAt_X11_streamAt
set_option maxRecDepth 20000 in
theorem ggL_hasIndex_X11_hasIndex : GoodIn wsL_hasIndex wsX11_hasIndex := goodIn_ca (goodIn_r _ [6, 7, 8, 9, 10, 5, 11, 12, 13, 14, 15, 16, 17, 18, 19, 20, 21, 22, 23, 24, 25, 26] (by decide +kernel) (by decide +kernel)) (goodIn_sub (fun _ h => List.mem_cons_of_mem _ (List.mem_append_right _ h)) (by decide +kernel))
set_option maxRecDepth 20000 in
theorem gL_hasIndex_X11_hasIndex : GoodIn wsL_hasIndex (wsV RL 104 RX11 yX11_hasIndex wsX11_hasIndex) := goodIn_app (goodIn_of _ (by decide +kernel)) ggL_hasIndex_X11_hasIndex
set_option maxRecDepth 20000 in
theorem ggL_found_X11_found : GoodIn wsL_found wsX11_found := goodIn_ca (goodIn_r _ [6, 7, 8, 9, 10, 5, 11, 12, 13, 14, 15, 16, 17, 18, 19, 20, 21, 22, 23, 24, 25, 26] (by decide +kernel) (by decide +kernel)) (goodIn_sub (fun _ h => List.mem_cons_of_mem _ (List.mem_append_right _ h)) (by decide +kernel))
set_option maxRecDepth 20000 in
theorem gL_found_X11_found : GoodIn wsL_found (wsV RL 108 RX11 yX11_found wsX11_found) := goodIn_app (goodIn_of _ (by decide +kernel)) ggL_found_X11_found
set_option maxRecDepth 20000 in
theorem ggL_keyFound_X11_keyFound : GoodIn wsL_keyFound wsX11_keyFound := goodIn_ca (goodIn_ca (goodIn_r _ [7, 8, 9, 10, 6, 11, 12, 13, 14, 15, 16, 17, 18, 19, 20, 21, 22, 23, 24, 25, 26, 27, 28, 29, 30, 31, 32, 33, 34, 35, 36, 37, 38, 39, 40, 41, 42, 43, 44, 45] (by decide +kernel) (by decide +kernel)) (goodIn_sub (fun _ h => List.mem_cons_of_mem _ (List.mem_append_left _ (List.mem_append_right _ h))) (by decide +kernel))) (goodIn_sub (fun _ h => List.mem_cons_of_mem _ (List.mem_append_right _ h)) (by decide +kernel))
set_option maxRecDepth 20000 in
theorem gL_keyFound_X11_keyFound : GoodIn wsL_keyFound (wsV RL 111 RX11 yX11_keyFound wsX11_keyFound) := goodIn_app (goodIn_of _ (by decide +kernel)) ggL_keyFound_X11_keyFound
set_option maxRecDepth 20000 in
theorem ggL_placeFound_X11_placeFound : GoodIn wsL_placeFound wsX11_placeFound := goodIn_ca (goodIn_ca (goodIn_r _ [7, 8, 9, 10, 6, 11, 12, 13, 14, 15, 16, 17, 18, 19, 20, 21, 22, 23, 24, 25, 26, 27, 28, 29, 30, 31, 32, 33, 34, 35, 36, 37, 38, 39, 40, 41, 42, 43, 44, 45] (by decide +kernel) (by decide +kernel)) (goodIn_sub (fun _ h => List.mem_cons_of_mem _ (List.mem_append_left _ (List.mem_append_right _ h))) (by decide +kernel))) (goodIn_sub (fun _ h => List.mem_cons_of_mem _ (List.mem_append_right _ h)) (by decide +kernel))
set_option maxRecDepth 20000 in
theorem gL_placeFound_X11_placeFound : GoodIn wsL_placeFound (wsV RL 114 RX11 yX11_placeFound wsX11_placeFound) := goodIn_app (goodIn_of _ (by decide +kernel)) ggL_placeFound_X11_placeFound
set_option maxRecDepth 20000 in
theorem ggL_isGood_X11_isGood : GoodIn wsL_isGood wsX11_isGood := goodIn_ca (goodIn_ca (goodIn_r _ [7, 8, 9, 10, 6, 11, 12, 13, 14, 15, 16, 17, 18, 19, 20, 21, 22, 23, 24, 25, 26, 27, 28, 29, 30, 31, 32, 33, 34, 35, 36, 37, 38, 39, 40, 41, 42, 43, 44, 45] (by decide +kernel) (by decide +kernel)) (goodIn_sub (fun _ h => List.mem_cons_of_mem _ (List.mem_append_left _ (List.mem_append_right _ h))) (by decide +kernel))) (goodIn_sub (fun _ h => List.mem_cons_of_mem _ (List.mem_append_right _ h)) (by decide +kernel))
set_option maxRecDepth 20000 in
theorem gL_isGood_X11_isGood : GoodIn wsL_isGood (wsV RL 117 RX11 yX11_isGood wsX11_isGood) := goodIn_app (goodIn_of _ (by decide +kernel)) ggL_isGood_X11_isGood
set_option maxRecDepth 20000 in
theorem ggL_lengthFound_X11_lengthFound : GoodIn wsL_lengthFound wsX11_lengthFound := goodIn_ca (goodIn_ca (goodIn_r _ [7, 8, 9, 10, 6, 11, 12, 13, 14, 15, 16, 17, 18, 19, 20, 21, 22, 23, 24, 25, 26, 27, 28, 29, 30, 31, 32, 33, 34, 35, 36, 37, 38, 39, 40, 41, 42, 43, 44, 45, 46, 47, 48, 49, 50, 51, 52, 53, 54, 55, 56, 57, 58, 59, 60] (by decide +kernel) (by decide +kernel)) (goodIn_sub (fun _ h => List.mem_cons_of_mem _ (List.mem_append_left _ (List.mem_append_right _ h))) (by decide +kernel))) (goodIn_sub (fun _ h => List.mem_cons_of_mem _ (List.mem_append_right _ h)) (by decide +kernel))
set_option maxRecDepth 20000 in
theorem gL_lengthFound_X11_lengthFound : GoodIn wsL_lengthFound (wsV RL 120 RX11 yX11_lengthFound wsX11_lengthFound) := goodIn_app (goodIn_of _ (by decide +kernel)) ggL_lengthFound_X11_lengthFound
set_option maxRecDepth 20000 in
theorem ggL_byteFound_X11_byteFound : GoodIn wsL_byteFound wsX11_byteFound := goodIn_ca (goodIn_ca (goodIn_r _ [7, 8, 9, 10, 11, 12, 6, 13, 14, 15, 16, 17, 18, 19, 20, 21, 22, 23, 24, 25, 26, 27, 28, 29, 30, 31, 32, 33, 34, 35, 36, 37, 38, 39, 40, 41, 42, 43, 44, 45, 46, 47, 48, 49, 50, 51, 52, 53, 54, 55, 56, 57, 58, 59, 60, 61] (by decide +kernel) (by decide +kernel)) (goodIn_sub (fun _ h => List.mem_cons_of_mem _ (List.mem_append_left _ (List.mem_append_right _ h))) (by decide +kernel))) (goodIn_sub (fun _ h => List.mem_cons_of_mem _ (List.mem_append_right _ h)) (by decide +kernel))
set_option maxRecDepth 20000 in
theorem gL_byteFound_X11_byteFound : GoodIn wsL_byteFound (wsV RL 123 RX11 yX11_byteFound wsX11_byteFound) := goodIn_app (goodIn_of _ (by decide +kernel)) ggL_byteFound_X11_byteFound
set_option maxRecDepth 20000 in
theorem ggL_restore_X11_restore : GoodIn wsL_restore wsX11_restore := goodIn_ca (goodIn_r _ [6, 7, 8, 9, 10, 11, 5, 12, 13, 14, 15, 16, 17, 18, 19, 20, 21, 22, 23, 24, 25, 26, 27, 28, 29, 30, 31, 32, 33, 34, 35, 36, 37, 38, 39, 40, 41, 42, 43, 44, 45, 46, 47, 48, 49, 50, 51, 52, 53, 54, 55, 56, 57, 58, 59, 60, 61, 62, 63, 64, 65, 66, 67, 68, 69, 70, 71, 72, 73, 74, 75, 76, 77, 78, 79, 80, 81, 82, 83, 84, 85, 86, 87, 88, 89, 90, 91, 92, 93, 94, 95, 96, 97, 98, 99, 100, 101, 102, 103, 104, 105, 106, 107, 108, 109, 110, 111, 112, 113, 114, 115, 116, 117, 118, 119, 120, 121, 122, 123, 124, 125, 126, 127, 128, 129, 130, 131, 132, 133, 134, 135, 136, 137, 138, 139, 140, 141, 142, 143, 144, 145, 146, 147, 148, 149, 150, 151] (by decide +kernel) (by decide +kernel)) (goodIn_sub (fun _ h => List.mem_cons_of_mem _ (List.mem_append_right _ h)) (by decide +kernel))
set_option maxRecDepth 20000 in
theorem gL_restore_X11_restore : GoodIn wsL_restore (wsV RL 126 RX11 yX11_restore wsX11_restore) := goodIn_app (goodIn_of _ (by decide +kernel)) ggL_restore_X11_restore
set_option maxRecDepth 20000 in
theorem ggL_law_X11_init : GoodIn wsL_law wsX11_init := goodIn_r _ [9, 10, 11, 12, 13, 14, 15, 16, 17, 18, 19, 20, 21, 22, 23, 24, 25, 26, 27, 28, 29, 30, 31, 32, 33, 34, 35, 36, 37, 38, 39, 40, 41, 42, 43, 44, 45, 46, 47, 48, 49, 50, 51, 52, 53, 54, 55, 56, 57, 58, 59, 60, 61, 62, 63, 64, 65, 66, 67, 68, 69, 70, 71, 72, 73, 74, 75, 76, 77, 78, 79, 80, 81, 82, 83, 84, 85, 86, 87, 88, 89, 90, 91, 92, 93, 94, 95, 96, 97, 98, 99, 100, 101, 102, 103, 104, 105, 106, 107, 108, 109, 110, 111, 112, 113, 114, 115, 116, 117, 118, 119, 120, 121, 122, 123, 124, 125, 1334, 1335, 1336, 1304, 1305, 1306, 1307, 1308, 1337, 1338, 1339, 1340, 1341, 1342, 1343, 1344, 1345, 1346, 1347, 1348, 1349, 1350, 1351, 1352, 1353, 1354, 1355, 1356, 1357, 1358, 1359, 1360, 1361, 1362, 1363, 1364, 1365, 1366, 1367, 1368, 1369, 1370, 1371, 1372, 1373, 1374] (by decide +kernel) (by decide +kernel)
set_option maxRecDepth 20000 in
theorem gL_law_X11_init : GoodIn wsL_law (wsX11_init) := ggL_law_X11_init
set_option maxRecDepth 20000 in
theorem ggL_law_X12_init : GoodIn wsL_law wsX12_init := goodIn_r _ [128, 129, 11, 12, 40, 130, 131, 132, 133, 134, 135, 136, 137, 138, 139, 140, 141, 142, 143, 144, 145, 146, 147, 1309, 1310, 1311, 1312, 1313, 1314, 1315, 1316, 1317, 1318, 1319, 1320, 1321, 1322, 1323, 1324, 1325, 1326, 1327, 1328, 1329, 1330, 1331, 1332, 1333] (by decide +kernel) (by decide +kernel)
set_option maxRecDepth 20000 in
theorem gL_law_X12_init : GoodIn wsL_law (wsX12_init) := ggL_law_X12_init
set_option maxRecDepth 20000 in
theorem ggL_law_L_product : GoodIn wsL_law wsL_product := goodIn_ca (goodIn_r _ [151, 152, 153, 154, 155, 2, 156, 157, 158, 19, 159, 160, 161, 162, 163, 164, 18, 165, 51, 166, 167, 168, 169, 50, 1304, 1305, 1306, 1307, 1308, 1335, 1336] (by decide +kernel) (by decide +kernel)) (goodIn_sub (fun _ h => List.mem_append_left _ (List.mem_append_left _ (List.mem_append_right _ h))) (by decide +kernel))
set_option maxRecDepth 20000 in
theorem gL_law_L_product : GoodIn wsL_law (va_wsS RL 133 yL_product wsL_product) := goodIn_app (goodIn_of _ (by decide +kernel)) ggL_law_L_product
set_option maxRecDepth 20000 in
theorem ggL_law_X12_product : GoodIn wsL_law wsX12_product := goodIn_r _ [173, 174, 175, 176, 5, 177, 178, 179, 180, 181, 182, 183, 184, 1309, 1310, 1311, 1312, 1313, 1314, 1315, 1316, 1317, 1318, 1319, 1320, 1321, 1322, 1323, 1324, 1325, 1326, 1327, 1328, 1329, 1330, 1331, 1332, 1333] (by decide +kernel) (by decide +kernel)
set_option maxRecDepth 20000 in
theorem gL_law_X12_product : GoodIn wsL_law (wsV RL 138 RX12 yX12_product wsX12_product) := goodIn_app (goodIn_of _ (by decide +kernel)) ggL_law_X12_product
set_option maxRecDepth 20000 in
theorem ggL_law_X12_thrown : GoodIn wsL_law wsX12_thrown := goodIn_r _ [188, 174, 1309, 1310, 1311, 1312, 1313, 1314, 1315, 1316, 1317, 1318, 1319, 1320, 1321, 1322, 1323, 1324, 1325, 1326, 1327, 1328, 1329, 1330, 1331, 1332, 1333] (by decide +kernel) (by decide +kernel)
set_option maxRecDepth 20000 in
theorem gL_law_X12_thrown : GoodIn wsL_law (wsV RL 139 RX12 yX12_thrown wsX12_thrown) := goodIn_app (goodIn_of _ (by decide +kernel)) ggL_law_X12_thrown
set_option maxRecDepth 20000 in
theorem ggL_law_L_inverse : GoodIn wsL_law wsL_inverse := goodIn_ca (goodIn_r _ [191, 152, 192, 193, 194, 2, 195, 157, 158, 19, 159, 160, 161, 196, 197, 198, 18, 199, 51, 166, 167, 168, 169, 50, 1304, 1305, 1306, 1307, 1308, 1335, 1336] (by decide +kernel) (by decide +kernel)) (goodIn_sub (fun _ h => List.mem_append_left _ (List.mem_append_left _ (List.mem_append_right _ h))) (by decide +kernel))
set_option maxRecDepth 20000 in
theorem gL_law_L_inverse : GoodIn wsL_law (va_wsS RL 142 yL_inverse wsL_inverse) := goodIn_app (goodIn_of _ (by decide +kernel)) ggL_law_L_inverse
set_option maxRecDepth 20000 in
theorem ggL_law_X12_inverse : GoodIn wsL_law wsX12_inverse := goodIn_r _ [203, 174, 175, 176, 5, 177, 204, 205, 206, 178, 179, 180, 181, 182, 183, 184, 1309, 1310, 1311, 1312, 1313, 1314, 1315, 1316, 1317, 1318, 1319, 1320, 1321, 1322, 1323, 1324, 1325, 1326, 1327, 1328, 1329, 1330, 1331, 1332, 1333] (by decide +kernel) (by decide +kernel)
set_option maxRecDepth 20000 in
theorem gL_law_X12_inverse : GoodIn wsL_law (wsV RL 145 RX12 yX12_inverse wsX12_inverse) := goodIn_app (goodIn_of _ (by decide +kernel)) ggL_law_X12_inverse
set_option maxRecDepth 20000 in
theorem ggL_law_L_power : GoodIn wsL_law wsL_power := goodIn_ca (goodIn_r _ [209, 152, 210, 211, 212, 2, 213, 157, 158, 19, 159, 160, 161, 214, 215, 216, 18, 217, 51, 166, 167, 168, 169, 50, 1304, 1305, 1306, 1307, 1308, 1335, 1336] (by decide +kernel) (by decide +kernel)) (goodIn_sub (fun _ h => List.mem_append_left _ (List.mem_append_left _ (List.mem_append_right _ h))) (by decide +kernel))
set_option maxRecDepth 20000 in
theorem gL_law_L_power : GoodIn wsL_law (va_wsS RL 146 yL_power wsL_power) := goodIn_app (goodIn_of _ (by decide +kernel)) ggL_law_L_power
set_option maxRecDepth 20000 in
theorem ggL_law_X12_power : GoodIn wsL_law wsX12_power := goodIn_r _ [221, 174, 175, 176, 5, 177, 181, 182, 183, 184, 178, 179, 180, 1309, 1310, 1311, 1312, 1313, 1314, 1315, 1316, 1317, 1318, 1319, 1320, 1321, 1322, 1323, 1324, 1325, 1326, 1327, 1328, 1329, 1330, 1331, 1332, 1333] (by decide +kernel) (by decide +kernel)
set_option maxRecDepth 20000 in
theorem gL_law_X12_power : GoodIn wsL_law (wsV RL 148 RX12 yX12_power wsX12_power) := goodIn_app (goodIn_of _ (by decide +kernel)) ggL_law_X12_power
set_option maxRecDepth 20000 in
theorem ggL_law_L_coefficient : GoodIn wsL_law wsL_coefficient := goodIn_ca (goodIn_r _ [224, 225, 226, 227, 228, 2, 229, 230, 231, 19, 232, 233, 234, 18, 235, 236, 197, 198, 199, 51, 166, 167, 168, 169, 50, 1304, 1305, 1306, 1307, 1308, 1335, 1336] (by decide +kernel) (by decide +kernel)) (goodIn_sub (fun _ h => List.mem_append_left _ (List.mem_append_right _ h)) (by decide +kernel))
set_option maxRecDepth 20000 in
theorem gL_law_L_coefficient : GoodIn wsL_law (va_wsS RL 149 yL_coefficient wsL_coefficient) := goodIn_app (goodIn_of _ (by decide +kernel)) ggL_law_L_coefficient
set_option maxRecDepth 20000 in
theorem ggL_law_X12_coefficient : GoodIn wsL_law wsX12_coefficient := goodIn_r _ [240, 174, 175, 176, 5, 177, 241, 242, 243, 204, 205, 206, 178, 179, 180, 181, 182, 183, 184, 1309, 1310, 1311, 1312, 1313, 1314, 1315, 1316, 1317, 1318, 1319, 1320, 1321, 1322, 1323, 1324, 1325, 1326, 1327, 1328, 1329, 1330, 1331, 1332, 1333] (by decide +kernel) (by decide +kernel)
set_option maxRecDepth 20000 in
theorem gL_law_X12_coefficient : GoodIn wsL_law (wsV RL 151 RX12 yX12_coefficient wsX12_coefficient) := goodIn_app (goodIn_of _ (by decide +kernel)) ggL_law_X12_coefficient
set_option maxRecDepth 20000 in
theorem ggL_law_L_write : GoodIn wsL_law wsL_write := goodIn_ca (goodIn_ca (goodIn_r _ [246, 152, 247, 248, 249, 250, 2, 251, 157, 158, 252, 253, 23, 159, 160, 161, 254, 255, 256, 58, 257, 258, 259, 260, 261, 262, 263, 264, 265, 266, 70, 1304, 1305, 1306, 1307, 1308, 1337, 1338, 1339, 1340, 1341, 1360, 1361] (by decide +kernel) (by decide +kernel)) (goodIn_sub (fun _ h => List.mem_append_left _ (List.mem_append_left _ (List.mem_append_right _ h))) (by decide +kernel))) (goodIn_sub (fun _ h => List.mem_append_right _ h) (by decide +kernel))
set_option maxRecDepth 20000 in
theorem gL_law_L_write : GoodIn wsL_law (va_wsS RL 152 yL_write wsL_write) := goodIn_app (goodIn_of _ (by decide +kernel)) ggL_law_L_write
set_option maxRecDepth 20000 in
theorem ggL_law_X12_write : GoodIn wsL_law wsX12_write := goodIn_r _ [270, 174, 271, 130, 175, 176, 5, 177, 181, 182, 183, 184, 1309, 1310, 1311, 1312, 1313, 1314, 1315, 1316, 1317, 1318, 1319, 1320, 1321, 1322, 1323, 1324, 1325, 1326, 1327, 1328, 1329, 1330, 1331, 1332, 1333] (by decide +kernel) (by decide +kernel)
set_option maxRecDepth 20000 in
theorem gL_law_X12_write : GoodIn wsL_law (wsV RL 154 RX12 yX12_write wsX12_write) := goodIn_app (goodIn_of _ (by decide +kernel)) ggL_law_X12_write
set_option maxRecDepth 20000 in
theorem ggL_law_L_noise : GoodIn wsL_law wsL_noise := goodIn_ca (goodIn_ca (goodIn_r _ [274, 152, 247, 275, 276, 277, 2, 278, 157, 158, 252, 253, 23, 279, 280, 281, 282, 283, 254, 255, 256, 58, 257, 258, 284, 264, 265, 266, 70, 1304, 1305, 1306, 1307, 1308, 1337, 1338, 1339, 1340, 1341, 1360, 1361] (by decide +kernel) (by decide +kernel)) (goodIn_sub (fun _ h => List.mem_append_left _ (List.mem_append_left _ (List.mem_append_right _ h))) (by decide +kernel))) (goodIn_sub (fun _ h => List.mem_append_right _ h) (by decide +kernel))
set_option maxRecDepth 20000 in
theorem gL_law_L_noise : GoodIn wsL_law (va_wsS RL 155 yL_noise wsL_noise) := goodIn_app (goodIn_of _ (by decide +kernel)) ggL_law_L_noise
set_option maxRecDepth 20000 in
theorem ggL_law_X12_noise : GoodIn wsL_law wsX12_noise := goodIn_r _ [288, 174, 289, 271, 290, 130, 175, 176, 5, 177, 181, 182, 183, 184, 1309, 1310, 1311, 1312, 1313, 1314, 1315, 1316, 1317, 1318, 1319, 1320, 1321, 1322, 1323, 1324, 1325, 1326, 1327, 1328, 1329, 1330, 1331, 1332, 1333] (by decide +kernel) (by decide +kernel)
set_option maxRecDepth 20000 in
theorem gL_law_X12_noise : GoodIn wsL_law (wsV RL 157 RX12 yX12_noise wsX12_noise) := goodIn_app (goodIn_of _ (by decide +kernel)) ggL_law_X12_noise
set_option maxRecDepth 20000 in
theorem ggL_law_L_cutSheet : GoodIn wsL_law wsL_cutSheet := goodIn_ca (goodIn_r _ [293, 152, 294, 295, 296, 2, 297, 157, 158, 23, 254, 255, 256, 58, 257, 258, 298, 299, 300, 301, 1304, 1305, 1306, 1307, 1308, 1337, 1338, 1339, 1340, 1341, 1360, 1361] (by decide +kernel) (by decide +kernel)) (goodIn_sub (fun _ h => List.mem_append_left _ (List.mem_append_left _ (List.mem_append_right _ h))) (by decide +kernel))
set_option maxRecDepth 20000 in
theorem gL_law_L_cutSheet : GoodIn wsL_law (va_wsS RL 158 yL_cutSheet wsL_cutSheet) := goodIn_app (goodIn_of _ (by decide +kernel)) ggL_law_L_cutSheet
set_option maxRecDepth 20000 in
theorem ggL_law_X12_cutSheet : GoodIn wsL_law wsX12_cutSheet := goodIn_r _ [305, 174, 271, 175, 176, 5, 177, 181, 182, 183, 184, 1309, 1310, 1311, 1312, 1313, 1314, 1315, 1316, 1317, 1318, 1319, 1320, 1321, 1322, 1323, 1324, 1325, 1326, 1327, 1328, 1329, 1330, 1331, 1332, 1333] (by decide +kernel) (by decide +kernel)
set_option maxRecDepth 20000 in
theorem gL_law_X12_cutSheet : GoodIn wsL_law (wsV RL 160 RX12 yX12_cutSheet wsX12_cutSheet) := goodIn_app (goodIn_of _ (by decide +kernel)) ggL_law_X12_cutSheet
set_option maxRecDepth 20000 in
theorem ggL_law_L_store : GoodIn wsL_law wsL_store := goodIn_ca (goodIn_ca (goodIn_r _ [308, 152, 247, 309, 310, 311, 2, 312, 157, 158, 252, 253, 23, 280, 281, 282, 283, 313, 314, 315, 22, 316, 317, 62, 318, 319, 320, 321, 322, 323, 324, 325, 326, 327, 328, 329, 330, 331, 332, 333, 63, 334, 335, 336, 337, 338, 339, 340, 341, 65, 342, 343, 75, 344, 76, 345, 346, 347, 58, 348, 349, 350, 351, 352, 258, 353, 255, 256, 257, 354, 355, 356, 357, 358, 359, 360, 361, 70, 263, 264, 265, 266, 362, 363, 364, 365, 15, 366, 367, 368, 369, 370, 371, 41, 372, 373, 374, 375, 376, 377, 378, 379, 380, 381, 382, 383, 384, 385, 386, 387, 388, 389, 390, 391, 392, 393, 394, 395, 396, 397, 398, 399, 1304, 1305, 1306, 1307, 1308, 1337, 1338, 1339, 1340, 1341, 1362, 1363, 1364, 1365, 1360, 1361, 1334] (by decide +kernel) (by decide +kernel)) (goodIn_sub (fun _ h => List.mem_append_left _ (List.mem_append_left _ (List.mem_append_right _ h))) (by decide +kernel))) (goodIn_sub (fun _ h => List.mem_append_right _ h) (by decide +kernel))
set_option maxRecDepth 20000 in
theorem gL_law_L_store : GoodIn wsL_law (va_wsS RL 161 yL_store wsL_store) := goodIn_app (goodIn_of _ (by decide +kernel)) ggL_law_L_store
set_option maxRecDepth 20000 in
theorem ggL_law_X12_store : GoodIn wsL_law wsX12_store := goodIn_r _ [403, 174, 289, 404, 130, 271, 175, 176, 5, 177, 181, 182, 183, 184, 405, 406, 407, 408, 131, 409, 410, 411, 412, 132, 134, 413, 414, 415, 416, 417, 418, 419, 420, 1309, 1310, 1311, 1312, 1313, 1314, 1315, 1316, 1317, 1318, 1319, 1320, 1321, 1322, 1323, 1324, 1325, 1326, 1327, 1328, 1329, 1330, 1331, 1332, 1333] (by decide +kernel) (by decide +kernel)
set_option maxRecDepth 20000 in
theorem gL_law_X12_store : GoodIn wsL_law (wsV RL 163 RX12 yX12_store wsX12_store) := goodIn_app (goodIn_of _ (by decide +kernel)) ggL_law_X12_store
set_option maxRecDepth 20000 in
theorem ggL_law_X11_remove : GoodIn wsL_law wsX11_remove := goodIn_r _ [424, 23, 425, 426, 427, 22, 428, 317, 318, 319, 320, 321, 322, 323, 324, 325, 326, 327, 328, 329, 62, 335, 336, 337, 338, 429, 255, 256, 58, 257, 258, 1304, 1305, 1306, 1307, 1308, 1337, 1338, 1339, 1340, 1341, 1362, 1363, 1364, 1365, 1360, 1361] (by decide +kernel) (by decide +kernel)
set_option maxRecDepth 20000 in
theorem gL_law_X11_remove : GoodIn wsL_law (wsV RL 164 RX11 yX11_remove wsX11_remove) := goodIn_app (goodIn_of _ (by decide +kernel)) ggL_law_X11_remove
set_option maxRecDepth 20000 in
theorem ggL_law_X12_remove : GoodIn wsL_law wsX12_remove := goodIn_r _ [433, 174, 132, 404, 405, 406, 407, 5, 408, 131, 417, 418, 419, 420, 134, 413, 414, 415, 416, 1309, 1310, 1311, 1312, 1313, 1314, 1315, 1316, 1317, 1318, 1319, 1320, 1321, 1322, 1323, 1324, 1325, 1326, 1327, 1328, 1329, 1330, 1331, 1332, 1333] (by decide +kernel) (by decide +kernel)
set_option maxRecDepth 20000 in
theorem gL_law_X12_remove : GoodIn wsL_law (wsV RL 167 RX12 yX12_remove wsX12_remove) := goodIn_app (goodIn_of _ (by decide +kernel)) ggL_law_X12_remove
set_option maxRecDepth 20000 in
theorem ggL_law_X11_files : GoodIn wsL_law wsX11_files := goodIn_r _ [437, 23, 396, 397, 398, 22, 399, 317, 1304, 1305, 1306, 1307, 1308, 1337, 1338, 1339, 1340, 1341] (by decide +kernel) (by decide +kernel)
set_option maxRecDepth 20000 in
theorem gL_law_X11_files : GoodIn wsL_law (wsV RL 168 RX11 yX11_files wsX11_files) := goodIn_app (goodIn_of _ (by decide +kernel)) ggL_law_X11_files
set_option maxRecDepth 20000 in
theorem ggL_law_X12_files : GoodIn wsL_law wsX12_files := goodIn_r _ [441, 404, 442, 443, 444, 5, 445, 174, 1309, 1310, 1311, 1312, 1313, 1314, 1315, 1316, 1317, 1318, 1319, 1320, 1321, 1322, 1323, 1324, 1325, 1326, 1327, 1328, 1329, 1330, 1331, 1332, 1333] (by decide +kernel) (by decide +kernel)
set_option maxRecDepth 20000 in
theorem gL_law_X12_files : GoodIn wsL_law (wsV RL 171 RX12 yX12_files wsX12_files) := goodIn_app (goodIn_of _ (by decide +kernel)) ggL_law_X12_files
set_option maxRecDepth 20000 in
theorem ggL_law_L_keyOf : GoodIn wsL_law wsL_keyOf := goodIn_ca (goodIn_r _ [448, 225, 449, 450, 451, 2, 452, 453, 454, 455, 456, 230, 231, 23, 457, 327, 328, 22, 329, 317, 62, 1362, 1363, 1364, 1365, 1304, 1305, 1306, 1307, 1308, 1337, 1338, 1339, 1340, 1341] (by decide +kernel) (by decide +kernel)) (goodIn_sub (fun _ h => List.mem_append_left _ (List.mem_append_right _ h)) (by decide +kernel))
set_option maxRecDepth 20000 in
theorem gL_law_L_keyOf : GoodIn wsL_law (va_wsS RL 172 yL_keyOf wsL_keyOf) := goodIn_app (goodIn_of _ (by decide +kernel)) ggL_law_L_keyOf
set_option maxRecDepth 20000 in
theorem ggL_law_X12_keyOf : GoodIn wsL_law wsX12_keyOf := goodIn_r _ [461, 174, 131, 462, 463, 464, 5, 465, 404, 175, 176, 177, 181, 182, 183, 184, 1309, 1310, 1311, 1312, 1313, 1314, 1315, 1316, 1317, 1318, 1319, 1320, 1321, 1322, 1323, 1324, 1325, 1326, 1327, 1328, 1329, 1330, 1331, 1332, 1333] (by decide +kernel) (by decide +kernel)
set_option maxRecDepth 20000 in
theorem gL_law_X12_keyOf : GoodIn wsL_law (wsV RL 174 RX12 yX12_keyOf wsX12_keyOf) := goodIn_app (goodIn_of _ (by decide +kernel)) ggL_law_X12_keyOf
set_option maxRecDepth 20000 in
theorem ggL_law_L_lengthOf : GoodIn wsL_law wsL_lengthOf := goodIn_ca (goodIn_r _ [468, 225, 469, 470, 471, 2, 472, 453, 454, 455, 456, 230, 231, 23, 457, 327, 328, 22, 329, 317, 62, 254, 255, 256, 58, 257, 258, 1362, 1363, 1364, 1365, 1304, 1305, 1306, 1307, 1308, 1337, 1338, 1339, 1340, 1341, 1360, 1361] (by decide +kernel) (by decide +kernel)) (goodIn_sub (fun _ h => List.mem_append_left _ (List.mem_append_right _ h)) (by decide +kernel))
set_option maxRecDepth 20000 in
theorem gL_law_L_lengthOf : GoodIn wsL_law (va_wsS RL 175 yL_lengthOf wsL_lengthOf) := goodIn_app (goodIn_of _ (by decide +kernel)) ggL_law_L_lengthOf
set_option maxRecDepth 20000 in
theorem ggL_law_X12_lengthOf : GoodIn wsL_law wsX12_lengthOf := goodIn_r _ [476, 174, 132, 462, 463, 464, 5, 465, 404, 175, 176, 177, 181, 182, 183, 184, 1309, 1310, 1311, 1312, 1313, 1314, 1315, 1316, 1317, 1318, 1319, 1320, 1321, 1322, 1323, 1324, 1325, 1326, 1327, 1328, 1329, 1330, 1331, 1332, 1333] (by decide +kernel) (by decide +kernel)
set_option maxRecDepth 20000 in
theorem gL_law_X12_lengthOf : GoodIn wsL_law (wsV RL 177 RX12 yX12_lengthOf wsX12_lengthOf) := goodIn_app (goodIn_of _ (by decide +kernel)) ggL_law_X12_lengthOf
set_option maxRecDepth 20000 in
theorem ggL_law_L_contentAt : GoodIn wsL_law wsL_contentAt := goodIn_ca (goodIn_r _ [479, 225, 480, 481, 482, 2, 483, 453, 454, 455, 456, 230, 231, 23, 457, 327, 328, 22, 329, 317, 62, 484, 485, 486, 254, 255, 256, 58, 257, 258, 487, 359, 360, 361, 70, 1362, 1363, 1364, 1365, 1304, 1305, 1306, 1307, 1308, 1337, 1338, 1339, 1340, 1341, 1360, 1361] (by decide +kernel) (by decide +kernel)) (goodIn_sub (fun _ h => List.mem_append_left _ (List.mem_append_right _ h)) (by decide +kernel))
set_option maxRecDepth 20000 in
theorem gL_law_L_contentAt : GoodIn wsL_law (va_wsS RL 178 yL_contentAt wsL_contentAt) := goodIn_app (goodIn_of _ (by decide +kernel)) ggL_law_L_contentAt
set_option maxRecDepth 20000 in
theorem ggL_law_X12_contentAt : GoodIn wsL_law wsX12_contentAt := goodIn_r _ [491, 174, 132, 134, 462, 463, 464, 5, 465, 404, 175, 176, 177, 181, 182, 183, 184, 1309, 1310, 1311, 1312, 1313, 1314, 1315, 1316, 1317, 1318, 1319, 1320, 1321, 1322, 1323, 1324, 1325, 1326, 1327, 1328, 1329, 1330, 1331, 1332, 1333] (by decide +kernel) (by decide +kernel)
set_option maxRecDepth 20000 in
theorem gL_law_X12_contentAt : GoodIn wsL_law (wsV RL 180 RX12 yX12_contentAt wsX12_contentAt) := goodIn_app (goodIn_of _ (by decide +kernel)) ggL_law_X12_contentAt
set_option maxRecDepth 20000 in
theorem ggL_law_L_checkOf : GoodIn wsL_law wsL_checkOf := goodIn_ca (goodIn_r _ [494, 225, 495, 496, 497, 2, 498, 453, 454, 455, 456, 230, 231, 23, 457, 327, 328, 22, 329, 317, 62, 1362, 1363, 1364, 1365, 1304, 1305, 1306, 1307, 1308, 1337, 1338, 1339, 1340, 1341] (by decide +kernel) (by decide +kernel)) (goodIn_sub (fun _ h => List.mem_append_left _ (List.mem_append_right _ h)) (by decide +kernel))
set_option maxRecDepth 20000 in
theorem gL_law_L_checkOf : GoodIn wsL_law (va_wsS RL 181 yL_checkOf wsL_checkOf) := goodIn_app (goodIn_of _ (by decide +kernel)) ggL_law_L_checkOf
set_option maxRecDepth 20000 in
theorem ggL_law_X12_checkOf : GoodIn wsL_law wsX12_checkOf := goodIn_r _ [502, 174, 134, 132, 462, 463, 464, 5, 465, 404, 175, 176, 177, 503, 504, 505, 289, 506, 507, 508, 509, 510, 181, 182, 183, 184, 1309, 1310, 1311, 1312, 1313, 1314, 1315, 1316, 1317, 1318, 1319, 1320, 1321, 1322, 1323, 1324, 1325, 1326, 1327, 1328, 1329, 1330, 1331, 1332, 1333] (by decide +kernel) (by decide +kernel)
set_option maxRecDepth 20000 in
theorem gL_law_X12_checkOf : GoodIn wsL_law (wsV RL 183 RX12 yX12_checkOf wsX12_checkOf) := goodIn_app (goodIn_of _ (by decide +kernel)) ggL_law_X12_checkOf
set_option maxRecDepth 20000 in
theorem ggL_law_L_packedLength : GoodIn wsL_law wsL_packedLength := goodIn_ca (goodIn_r _ [513, 225, 514, 515, 516, 2, 517, 453, 454, 455, 456, 230, 231, 23, 457, 327, 328, 22, 329, 317, 62, 254, 255, 256, 58, 257, 258, 1362, 1363, 1364, 1365, 1304, 1305, 1306, 1307, 1308, 1337, 1338, 1339, 1340, 1341, 1360, 1361] (by decide +kernel) (by decide +kernel)) (goodIn_sub (fun _ h => List.mem_append_left _ (List.mem_append_right _ h)) (by decide +kernel))
set_option maxRecDepth 20000 in
theorem gL_law_L_packedLength : GoodIn wsL_law (va_wsS RL 184 yL_packedLength wsL_packedLength) := goodIn_app (goodIn_of _ (by decide +kernel)) ggL_law_L_packedLength
set_option maxRecDepth 20000 in
theorem ggL_law_X12_packedLength : GoodIn wsL_law wsX12_packedLength := goodIn_r _ [521, 174, 134, 132, 462, 463, 464, 5, 465, 404, 175, 176, 177, 522, 523, 524, 525, 143, 526, 527, 528, 181, 182, 183, 184, 1309, 1310, 1311, 1312, 1313, 1314, 1315, 1316, 1317, 1318, 1319, 1320, 1321, 1322, 1323, 1324, 1325, 1326, 1327, 1328, 1329, 1330, 1331, 1332, 1333] (by decide +kernel) (by decide +kernel)
set_option maxRecDepth 20000 in
theorem gL_law_X12_packedLength : GoodIn wsL_law (wsV RL 186 RX12 yX12_packedLength wsX12_packedLength) := goodIn_app (goodIn_of _ (by decide +kernel)) ggL_law_X12_packedLength
set_option maxRecDepth 20000 in
theorem ggL_law_L_packedAt : GoodIn wsL_law wsL_packedAt := goodIn_ca (goodIn_r _ [531, 225, 532, 533, 534, 2, 535, 453, 454, 455, 456, 230, 231, 23, 457, 327, 328, 22, 329, 317, 62, 484, 485, 486, 254, 255, 256, 58, 257, 258, 487, 359, 360, 361, 70, 1362, 1363, 1364, 1365, 1304, 1305, 1306, 1307, 1308, 1337, 1338, 1339, 1340, 1341, 1360, 1361] (by decide +kernel) (by decide +kernel)) (goodIn_sub (fun _ h => List.mem_append_left _ (List.mem_append_right _ h)) (by decide +kernel))
set_option maxRecDepth 20000 in
theorem gL_law_L_packedAt : GoodIn wsL_law (va_wsS RL 187 yL_packedAt wsL_packedAt) := goodIn_app (goodIn_of _ (by decide +kernel)) ggL_law_L_packedAt
set_option maxRecDepth 20000 in
theorem ggL_law_X12_packedAt : GoodIn wsL_law wsX12_packedAt := goodIn_r _ [539, 174, 134, 132, 143, 462, 463, 464, 5, 465, 404, 175, 176, 177, 522, 523, 524, 525, 526, 527, 528, 181, 182, 183, 184, 1309, 1310, 1311, 1312, 1313, 1314, 1315, 1316, 1317, 1318, 1319, 1320, 1321, 1322, 1323, 1324, 1325, 1326, 1327, 1328, 1329, 1330, 1331, 1332, 1333] (by decide +kernel) (by decide +kernel)
set_option maxRecDepth 20000 in
theorem gL_law_X12_packedAt : GoodIn wsL_law (wsV RL 189 RX12 yX12_packedAt wsX12_packedAt) := goodIn_app (goodIn_of _ (by decide +kernel)) ggL_law_X12_packedAt
set_option maxRecDepth 20000 in
theorem ggL_law_X11_streamLength : GoodIn wsL_law wsX11_streamLength := goodIn_r _ [543, 23, 544, 545, 546, 22, 547, 317, 326, 327, 328, 329, 62, 548, 549, 550, 65, 551, 76, 75, 552, 553, 554, 555, 362, 255, 256, 58, 257, 258, 1304, 1305, 1306, 1307, 1308, 1337, 1338, 1339, 1340, 1341, 1362, 1363, 1364, 1365, 1360, 1361] (by decide +kernel) (by decide +kernel)
set_option maxRecDepth 20000 in
theorem gL_law_X11_streamLength : GoodIn wsL_law (wsV RL 190 RX11 yX11_streamLength wsX11_streamLength) := goodIn_app (goodIn_of _ (by decide +kernel)) ggL_law_X11_streamLength
set_option maxRecDepth 20000 in
theorem ggL_law_X12_streamLength : GoodIn wsL_law wsX12_streamLength := goodIn_r _ [559, 560, 561, 562, 5, 563, 404, 132, 134, 564, 387, 388, 389, 522, 523, 524, 525, 143, 526, 527, 528, 442, 443, 444, 445, 174, 1309, 1310, 1311, 1312, 1313, 1314, 1315, 1316, 1317, 1318, 1319, 1320, 1321, 1322, 1323, 1324, 1325, 1326, 1327, 1328, 1329, 1330, 1331, 1332, 1333] (by decide +kernel) (by decide +kernel)
set_option maxRecDepth 20000 in
theorem gL_law_X12_streamLength : GoodIn wsL_law (wsV RL 193 RX12 yX12_streamLength wsX12_streamLength) := goodIn_app (goodIn_of _ (by decide +kernel)) ggL_law_X12_streamLength
set_option maxRecDepth 20000 in
theorem ggL_law_L_build : GoodIn wsL_law wsL_build := goodIn_ca (goodIn_r _ [567, 152, 568, 569, 570, 2, 571, 157, 158, 35, 23, 27, 572, 573, 574, 34, 575, 576, 577, 578, 579, 22, 580, 60, 317, 63, 581, 350, 351, 58, 352, 258, 326, 327, 328, 329, 62, 582, 583, 584, 65, 585, 76, 75, 343, 344, 552, 553, 554, 555, 362, 255, 256, 257, 586, 264, 265, 266, 70, 587, 588, 589, 590, 263, 591, 355, 356, 357, 358, 359, 360, 361, 429, 592, 593, 594, 595, 596, 548, 549, 550, 551, 597, 364, 365, 15, 366, 367, 368, 369, 370, 371, 41, 372, 598, 599, 600, 601, 26, 602, 83, 89, 603, 604, 605, 606, 86, 607, 608, 609, 610, 88, 611, 612, 613, 95, 614, 615, 616, 617, 618, 619, 260, 261, 262, 620, 621, 622, 18, 623, 624, 233, 234, 235, 236, 197, 198, 199, 51, 166, 167, 168, 169, 50, 625, 626, 627, 628, 629, 630, 163, 164, 165, 631, 632, 633, 634, 635, 636, 637, 638, 639, 640, 641, 642, 96, 643, 644, 645, 646, 647, 648, 649, 650, 651, 652, 653, 654, 655, 656, 657, 658, 659, 660, 661, 662, 353, 254, 663, 1304, 1305, 1306, 1307, 1308, 1352, 1353, 1354, 1355, 1356, 1357, 1358, 1359, 1337, 1338, 1339, 1340, 1341, 1360, 1361, 1362, 1363, 1364, 1365, 1334, 1342, 1343, 1344, 1345, 1346, 1347, 1348, 1366, 1367, 1368, 1369, 1335, 1336] (by decide +kernel) (by decide +kernel)) (goodIn_sub (fun _ h => List.mem_append_left _ (List.mem_append_left _ (List.mem_append_right _ h))) (by decide +kernel))
set_option maxRecDepth 20000 in
theorem gL_law_L_build : GoodIn wsL_law (va_wsS RL 194 yL_build wsL_build) := goodIn_app (goodIn_of _ (by decide +kernel)) ggL_law_L_build
set_option maxRecDepth 20000 in
theorem ggL_law_X12_build : GoodIn wsL_law wsX12_build := goodIn_r _ [667, 174, 668, 175, 176, 5, 177, 181, 182, 183, 184, 669, 670, 671, 672, 40, 404, 134, 132, 131, 143, 413, 414, 415, 416, 560, 561, 562, 563, 564, 387, 388, 389, 522, 523, 524, 525, 526, 527, 528, 673, 674, 675, 503, 504, 505, 289, 506, 507, 508, 509, 510, 676, 677, 678, 679, 137, 136, 680, 681, 682, 683, 684, 685, 241, 242, 243, 204, 205, 206, 178, 179, 180, 686, 687, 688, 689, 690, 691, 692, 1309, 1310, 1311, 1312, 1313, 1314, 1315, 1316, 1317, 1318, 1319, 1320, 1321, 1322, 1323, 1324, 1325, 1326, 1327, 1328, 1329, 1330, 1331, 1332, 1333] (by decide +kernel) (by decide +kernel)
set_option maxRecDepth 20000 in
theorem gL_law_X12_build : GoodIn wsL_law (wsV RL 196 RX12 yX12_build wsX12_build) := goodIn_app (goodIn_of _ (by decide +kernel)) ggL_law_X12_build
set_option maxRecDepth 20000 in
theorem ggL_law_L_sizeOf : GoodIn wsL_law wsL_sizeOf := goodIn_ca (goodIn_r _ [695, 225, 696, 697, 698, 2, 699, 700, 701, 702, 703, 230, 231, 27, 704, 705, 706, 26, 707, 83, 708, 709, 710, 88, 711, 612, 95, 645, 255, 256, 58, 257, 258, 1304, 1305, 1306, 1307, 1308, 1342, 1343, 1344, 1345, 1346, 1347, 1348, 1366, 1367, 1368, 1369, 1360, 1361] (by decide +kernel) (by decide +kernel)) (goodIn_sub (fun _ h => List.mem_append_left _ (List.mem_append_right _ h)) (by decide +kernel))
set_option maxRecDepth 20000 in
theorem gL_law_L_sizeOf : GoodIn wsL_law (va_wsS RL 197 yL_sizeOf wsL_sizeOf) := goodIn_app (goodIn_of _ (by decide +kernel)) ggL_law_L_sizeOf
set_option maxRecDepth 20000 in
theorem ggL_law_X12_sizeOf : GoodIn wsL_law wsX12_sizeOf := goodIn_r _ [715, 174, 137, 716, 717, 5, 718, 175, 176, 177, 181, 182, 183, 184, 1309, 1310, 1311, 1312, 1313, 1314, 1315, 1316, 1317, 1318, 1319, 1320, 1321, 1322, 1323, 1324, 1325, 1326, 1327, 1328, 1329, 1330, 1331, 1332, 1333] (by decide +kernel) (by decide +kernel)
set_option maxRecDepth 20000 in
theorem gL_law_X12_sizeOf : GoodIn wsL_law (wsV RL 199 RX12 yX12_sizeOf wsX12_sizeOf) := goodIn_app (goodIn_of _ (by decide +kernel)) ggL_law_X12_sizeOf
set_option maxRecDepth 20000 in
theorem ggL_law_L_byteAt : GoodIn wsL_law wsL_byteAt := goodIn_ca (goodIn_r _ [721, 225, 722, 723, 724, 2, 725, 726, 727, 728, 729, 230, 231, 700, 701, 702, 703, 27, 704, 705, 706, 26, 707, 83, 730, 731, 732, 88, 733, 612, 484, 485, 486, 254, 255, 256, 58, 257, 258, 487, 359, 360, 361, 70, 1366, 1367, 1368, 1369, 1304, 1305, 1306, 1307, 1308, 1342, 1343, 1344, 1345, 1346, 1347, 1348, 1360, 1361] (by decide +kernel) (by decide +kernel)) (goodIn_sub (fun _ h => List.mem_append_left _ (List.mem_append_right _ h)) (by decide +kernel))
set_option maxRecDepth 20000 in
theorem gL_law_L_byteAt : GoodIn wsL_law (va_wsS RL 200 yL_byteAt wsL_byteAt) := goodIn_app (goodIn_of _ (by decide +kernel)) ggL_law_L_byteAt
set_option maxRecDepth 20000 in
theorem ggL_law_X12_byteAt : GoodIn wsL_law wsX12_byteAt := goodIn_r _ [737, 174, 136, 738, 739, 740, 5, 741, 137, 742, 743, 744, 745, 716, 717, 718, 175, 176, 177, 181, 182, 183, 184, 1309, 1310, 1311, 1312, 1313, 1314, 1315, 1316, 1317, 1318, 1319, 1320, 1321, 1322, 1323, 1324, 1325, 1326, 1327, 1328, 1329, 1330, 1331, 1332, 1333] (by decide +kernel) (by decide +kernel)
set_option maxRecDepth 20000 in
theorem gL_law_X12_byteAt : GoodIn wsL_law (wsV RL 202 RX12 yX12_byteAt wsX12_byteAt) := goodIn_app (goodIn_of _ (by decide +kernel)) ggL_law_X12_byteAt
set_option maxRecDepth 20000 in
theorem ggL_law_L_spoil : GoodIn wsL_law wsL_spoil := goodIn_ca (goodIn_ca (goodIn_r _ [748, 225, 152, 749, 750, 751, 2, 752, 230, 231, 157, 158, 726, 727, 728, 729, 700, 701, 702, 703, 27, 704, 705, 706, 26, 707, 83, 730, 731, 732, 88, 733, 612, 708, 709, 710, 711, 95, 645, 255, 256, 58, 257, 258, 159, 160, 161, 753, 754, 755, 756, 613, 757, 359, 360, 361, 70, 758, 632, 633, 634, 1304, 1305, 1306, 1307, 1308, 1342, 1343, 1344, 1345, 1346, 1347, 1348, 1366, 1367, 1368, 1369, 1360, 1361] (by decide +kernel) (by decide +kernel)) (goodIn_sub (fun _ h => List.mem_append_left _ (List.mem_append_right _ h)) (by decide +kernel))) (goodIn_sub (fun _ h => List.mem_append_left _ (List.mem_append_left _ (List.mem_append_right _ h))) (by decide +kernel))
set_option maxRecDepth 20000 in
theorem gL_law_L_spoil : GoodIn wsL_law (va_wsS RL 203 yL_spoil wsL_spoil) := goodIn_app (goodIn_of _ (by decide +kernel)) ggL_law_L_spoil
set_option maxRecDepth 20000 in
theorem ggL_law_X12_spoil : GoodIn wsL_law wsX12_spoil := goodIn_r _ [762, 174, 136, 738, 739, 740, 5, 741, 137, 742, 743, 744, 745, 716, 717, 718, 175, 176, 177, 181, 182, 183, 184, 1309, 1310, 1311, 1312, 1313, 1314, 1315, 1316, 1317, 1318, 1319, 1320, 1321, 1322, 1323, 1324, 1325, 1326, 1327, 1328, 1329, 1330, 1331, 1332, 1333] (by decide +kernel) (by decide +kernel)
set_option maxRecDepth 20000 in
theorem gL_law_X12_spoil : GoodIn wsL_law (wsV RL 206 RX12 yX12_spoil wsX12_spoil) := goodIn_app (goodIn_of _ (by decide +kernel)) ggL_law_X12_spoil
set_option maxRecDepth 20000 in
theorem ggL_law_L_sign : GoodIn wsL_law wsL_sign := goodIn_ca (goodIn_ca (goodIn_r _ [765, 225, 247, 766, 767, 768, 2, 769, 252, 253, 726, 727, 728, 729, 230, 231, 700, 701, 702, 703, 27, 704, 705, 706, 26, 707, 83, 730, 731, 732, 88, 733, 612, 708, 709, 710, 711, 95, 645, 255, 256, 58, 257, 258, 770, 636, 637, 638, 613, 639, 640, 641, 642, 96, 643, 644, 369, 370, 15, 371, 367, 41, 372, 359, 360, 361, 70, 646, 647, 648, 649, 650, 632, 633, 634, 1304, 1305, 1306, 1307, 1308, 1342, 1343, 1344, 1345, 1346, 1347, 1348, 1366, 1367, 1368, 1369, 1360, 1361, 1334] (by decide +kernel) (by decide +kernel)) (goodIn_sub (fun _ h => List.mem_append_right _ h) (by decide +kernel))) (goodIn_sub (fun _ h => List.mem_append_left _ (List.mem_append_right _ h)) (by decide +kernel))
set_option maxRecDepth 20000 in
theorem gL_law_L_sign : GoodIn wsL_law (va_wsS RL 207 yL_sign wsL_sign) := goodIn_app (goodIn_of _ (by decide +kernel)) ggL_law_L_sign
set_option maxRecDepth 20000 in
theorem ggL_law_X12_sign : GoodIn wsL_law wsX12_sign := goodIn_r _ [774, 174, 137, 136, 742, 743, 744, 5, 745, 716, 717, 718, 175, 176, 177, 181, 182, 183, 184, 686, 687, 688, 503, 504, 505, 289, 506, 507, 508, 509, 510, 673, 674, 675, 1309, 1310, 1311, 1312, 1313, 1314, 1315, 1316, 1317, 1318, 1319, 1320, 1321, 1322, 1323, 1324, 1325, 1326, 1327, 1328, 1329, 1330, 1331, 1332, 1333] (by decide +kernel) (by decide +kernel)
set_option maxRecDepth 20000 in
theorem gL_law_X12_sign : GoodIn wsL_law (wsV RL 209 RX12 yX12_sign wsX12_sign) := goodIn_app (goodIn_of _ (by decide +kernel)) ggL_law_X12_sign
set_option maxRecDepth 20000 in
theorem ggL_law_L_cut : GoodIn wsL_law wsL_cut := goodIn_ca (goodIn_ca (goodIn_r _ [777, 225, 152, 778, 779, 780, 2, 781, 157, 158, 726, 727, 728, 729, 230, 231, 700, 701, 702, 703, 27, 704, 705, 706, 26, 707, 83, 730, 731, 732, 88, 733, 612, 708, 709, 710, 711, 95, 645, 255, 256, 58, 257, 258, 782, 783, 784, 785, 613, 786, 299, 300, 301, 1304, 1305, 1306, 1307, 1308, 1342, 1343, 1344, 1345, 1346, 1347, 1348, 1366, 1367, 1368, 1369, 1360, 1361] (by decide +kernel) (by decide +kernel)) (goodIn_sub (fun _ h => List.mem_append_left _ (List.mem_append_left _ (List.mem_append_right _ h))) (by decide +kernel))) (goodIn_sub (fun _ h => List.mem_append_left _ (List.mem_append_right _ h)) (by decide +kernel))
set_option maxRecDepth 20000 in
theorem gL_law_L_cut : GoodIn wsL_law (va_wsS RL 210 yL_cut wsL_cut) := goodIn_app (goodIn_of _ (by decide +kernel)) ggL_law_L_cut
set_option maxRecDepth 20000 in
theorem ggL_law_X12_cut : GoodIn wsL_law wsX12_cut := goodIn_r _ [790, 174, 137, 742, 743, 744, 5, 745, 716, 717, 718, 175, 176, 177, 181, 182, 183, 184, 1309, 1310, 1311, 1312, 1313, 1314, 1315, 1316, 1317, 1318, 1319, 1320, 1321, 1322, 1323, 1324, 1325, 1326, 1327, 1328, 1329, 1330, 1331, 1332, 1333] (by decide +kernel) (by decide +kernel)
set_option maxRecDepth 20000 in
theorem gL_law_X12_cut : GoodIn wsL_law (wsV RL 212 RX12 yX12_cut wsX12_cut) := goodIn_app (goodIn_of _ (by decide +kernel)) ggL_law_X12_cut
set_option maxRecDepth 20000 in
theorem ggL_law_L_lose : GoodIn wsL_law wsL_lose := goodIn_ca (goodIn_r _ [793, 225, 794, 795, 796, 2, 797, 700, 701, 702, 703, 230, 231, 27, 704, 705, 706, 26, 707, 83, 730, 731, 732, 88, 733, 612, 798, 652, 653, 654, 95, 613, 616, 350, 351, 58, 352, 258, 1304, 1305, 1306, 1307, 1308, 1342, 1343, 1344, 1345, 1346, 1347, 1348, 1366, 1367, 1368, 1369, 1360, 1361] (by decide +kernel) (by decide +kernel)) (goodIn_sub (fun _ h => List.mem_append_left _ (List.mem_append_right _ h)) (by decide +kernel))
set_option maxRecDepth 20000 in
theorem gL_law_L_lose : GoodIn wsL_law (va_wsS RL 213 yL_lose wsL_lose) := goodIn_app (goodIn_of _ (by decide +kernel)) ggL_law_L_lose
set_option maxRecDepth 20000 in
theorem ggL_law_X12_lose : GoodIn wsL_law wsX12_lose := goodIn_r _ [802, 174, 137, 716, 717, 5, 718, 175, 176, 177, 803, 804, 805, 806, 1309, 1310, 1311, 1312, 1313, 1314, 1315, 1316, 1317, 1318, 1319, 1320, 1321, 1322, 1323, 1324, 1325, 1326, 1327, 1328, 1329, 1330, 1331, 1332, 1333] (by decide +kernel) (by decide +kernel)
set_option maxRecDepth 20000 in
theorem gL_law_X12_lose : GoodIn wsL_law (wsV RL 215 RX12 yX12_lose wsX12_lose) := goodIn_app (goodIn_of _ (by decide +kernel)) ggL_law_X12_lose
set_option maxRecDepth 20000 in
theorem ggL_law_L_exchange : GoodIn wsL_law wsL_exchange := goodIn_ca (goodIn_r _ [809, 225, 810, 811, 812, 2, 813, 27, 700, 701, 702, 703, 230, 231, 704, 705, 706, 26, 707, 83, 814, 815, 816, 817, 818, 730, 731, 732, 88, 733, 612, 1304, 1305, 1306, 1307, 1308, 1342, 1343, 1344, 1345, 1346, 1347, 1348, 1366, 1367, 1368, 1369] (by decide +kernel) (by decide +kernel)) (goodIn_sub (fun _ h => List.mem_append_left _ (List.mem_append_right _ h)) (by decide +kernel))
set_option maxRecDepth 20000 in
theorem gL_law_L_exchange : GoodIn wsL_law (va_wsS RL 216 yL_exchange wsL_exchange) := goodIn_app (goodIn_of _ (by decide +kernel)) ggL_law_L_exchange
set_option maxRecDepth 20000 in
theorem ggL_law_X12_exchange : GoodIn wsL_law wsX12_exchange := goodIn_r _ [822, 174, 136, 137, 716, 717, 5, 718, 175, 176, 177, 181, 182, 183, 184, 1309, 1310, 1311, 1312, 1313, 1314, 1315, 1316, 1317, 1318, 1319, 1320, 1321, 1322, 1323, 1324, 1325, 1326, 1327, 1328, 1329, 1330, 1331, 1332, 1333] (by decide +kernel) (by decide +kernel)
set_option maxRecDepth 20000 in
theorem gL_law_X12_exchange : GoodIn wsL_law (wsV RL 218 RX12 yX12_exchange wsX12_exchange) := goodIn_app (goodIn_of _ (by decide +kernel)) ggL_law_X12_exchange
set_option maxRecDepth 20000 in
theorem ggL_law_L_copy : GoodIn wsL_law wsL_copy := goodIn_ca (goodIn_r _ [825, 225, 826, 827, 828, 2, 829, 726, 727, 728, 729, 230, 231, 700, 701, 702, 703, 27, 704, 705, 706, 26, 707, 83, 730, 731, 732, 88, 733, 612, 830, 831, 832, 833, 95, 613, 834, 346, 347, 58, 348, 349, 350, 351, 352, 258, 353, 255, 256, 257, 354, 355, 356, 357, 358, 359, 360, 361, 70, 263, 264, 265, 266, 708, 709, 710, 711, 645, 1304, 1305, 1306, 1307, 1308, 1342, 1343, 1344, 1345, 1346, 1347, 1348, 1366, 1367, 1368, 1369, 1360, 1361] (by decide +kernel) (by decide +kernel)) (goodIn_sub (fun _ h => List.mem_append_left _ (List.mem_append_right _ h)) (by decide +kernel))
set_option maxRecDepth 20000 in
theorem gL_law_L_copy : GoodIn wsL_law (va_wsS RL 219 yL_copy wsL_copy) := goodIn_app (goodIn_of _ (by decide +kernel)) ggL_law_L_copy
set_option maxRecDepth 20000 in
theorem ggL_law_X12_copy : GoodIn wsL_law wsX12_copy := goodIn_r _ [838, 174, 137, 40, 136, 413, 414, 415, 416, 742, 743, 744, 5, 745, 716, 717, 718, 175, 176, 177, 181, 182, 183, 184, 1309, 1310, 1311, 1312, 1313, 1314, 1315, 1316, 1317, 1318, 1319, 1320, 1321, 1322, 1323, 1324, 1325, 1326, 1327, 1328, 1329, 1330, 1331, 1332, 1333] (by decide +kernel) (by decide +kernel)
set_option maxRecDepth 20000 in
theorem gL_law_X12_copy : GoodIn wsL_law (wsV RL 221 RX12 yX12_copy wsX12_copy) := goodIn_app (goodIn_of _ (by decide +kernel)) ggL_law_X12_copy
set_option maxRecDepth 20000 in
theorem ggL_law_L_isSound : GoodIn wsL_law wsL_isSound := goodIn_ca (goodIn_r _ [841, 225, 842, 843, 844, 2, 845, 700, 701, 702, 703, 230, 231, 27, 704, 705, 706, 26, 707, 83, 846, 847, 848, 88, 849, 613, 95, 850, 851, 852, 853, 612, 645, 255, 256, 58, 257, 258, 757, 359, 360, 361, 70, 854, 855, 856, 857, 858, 859, 860, 861, 862, 863, 864, 865, 866, 867, 868, 869, 870, 871, 872, 873, 358, 874, 875, 876, 877, 614, 615, 639, 640, 641, 642, 96, 643, 644, 369, 370, 15, 371, 367, 41, 372, 1304, 1305, 1306, 1307, 1308, 1342, 1343, 1344, 1345, 1346, 1347, 1348, 1366, 1367, 1368, 1369, 1360, 1361, 1334] (by decide +kernel) (by decide +kernel)) (goodIn_sub (fun _ h => List.mem_append_left _ (List.mem_append_right _ h)) (by decide +kernel))
set_option maxRecDepth 20000 in
theorem gL_law_L_isSound : GoodIn wsL_law (va_wsS RL 222 yL_isSound wsL_isSound) := goodIn_app (goodIn_of _ (by decide +kernel)) ggL_law_L_isSound
set_option maxRecDepth 20000 in
theorem ggL_law_X12_isSound : GoodIn wsL_law wsX12_isSound := goodIn_r _ [881, 174, 716, 717, 5, 718, 175, 176, 177, 882, 883, 884, 885, 136, 137, 886, 887, 888, 683, 684, 685, 686, 687, 688, 503, 504, 505, 289, 506, 507, 508, 509, 510, 803, 804, 805, 806, 1309, 1310, 1311, 1312, 1313, 1314, 1315, 1316, 1317, 1318, 1319, 1320, 1321, 1322, 1323, 1324, 1325, 1326, 1327, 1328, 1329, 1330, 1331, 1332, 1333] (by decide +kernel) (by decide +kernel)
set_option maxRecDepth 20000 in
theorem gL_law_X12_isSound : GoodIn wsL_law (wsV RL 224 RX12 yX12_isSound wsX12_isSound) := goodIn_app (goodIn_of _ (by decide +kernel)) ggL_law_X12_isSound
set_option maxRecDepth 20000 in
theorem ggL_law_X11_leader : GoodIn wsL_law wsX11_leader := goodIn_r _ [892, 27, 893, 894, 895, 26, 896, 897, 898, 84, 85, 83, 899, 847, 848, 88, 849, 613, 95, 850, 851, 852, 853, 612, 645, 255, 256, 58, 257, 258, 757, 359, 360, 361, 70, 854, 855, 856, 857, 858, 859, 860, 861, 862, 863, 864, 865, 866, 867, 868, 869, 870, 871, 872, 873, 358, 874, 875, 876, 877, 614, 2, 615, 639, 640, 641, 642, 96, 643, 644, 369, 370, 15, 371, 367, 41, 372, 900, 901, 902, 903, 818, 705, 706, 707, 904, 905, 906, 907, 908, 1304, 1305, 1306, 1307, 1308, 1342, 1343, 1344, 1345, 1346, 1347, 1348, 1366, 1367, 1368, 1369, 1360, 1361, 1334] (by decide +kernel) (by decide +kernel)
set_option maxRecDepth 20000 in
theorem gL_law_X11_leader : GoodIn wsL_law (wsV RL 225 RX11 yX11_leader wsX11_leader) := goodIn_app (goodIn_of _ (by decide +kernel)) ggL_law_X11_leader
set_option maxRecDepth 20000 in
theorem ggL_law_X12_leader : GoodIn wsL_law wsX12_leader := goodIn_r _ [912, 913, 914, 915, 916, 5, 917, 918, 146, 147, 136, 882, 883, 884, 885, 137, 175, 176, 177, 886, 887, 888, 683, 684, 685, 686, 687, 688, 503, 504, 505, 289, 506, 507, 508, 509, 510, 442, 443, 444, 445, 174, 1309, 1310, 1311, 1312, 1313, 1314, 1315, 1316, 1317, 1318, 1319, 1320, 1321, 1322, 1323, 1324, 1325, 1326, 1327, 1328, 1329, 1330, 1331, 1332, 1333] (by decide +kernel) (by decide +kernel)
set_option maxRecDepth 20000 in
theorem gL_law_X12_leader : GoodIn wsL_law (wsV RL 228 RX12 yX12_leader wsX12_leader) := goodIn_app (goodIn_of _ (by decide +kernel)) ggL_law_X12_leader
set_option maxRecDepth 20000 in
theorem ggL_law_X11_present : GoodIn wsL_law wsX11_present := goodIn_r _ [922, 27, 893, 894, 895, 26, 896, 897, 898, 84, 85, 83, 899, 847, 848, 88, 849, 613, 95, 850, 851, 852, 853, 612, 645, 255, 256, 58, 257, 258, 757, 359, 360, 361, 70, 854, 855, 856, 857, 858, 859, 860, 861, 862, 863, 864, 865, 866, 867, 868, 869, 870, 871, 872, 873, 358, 874, 875, 876, 877, 614, 2, 615, 639, 640, 641, 642, 96, 643, 644, 369, 370, 15, 371, 367, 41, 372, 900, 901, 902, 903, 818, 705, 706, 707, 904, 905, 906, 907, 908, 1304, 1305, 1306, 1307, 1308, 1342, 1343, 1344, 1345, 1346, 1347, 1348, 1366, 1367, 1368, 1369, 1360, 1361, 1334] (by decide +kernel) (by decide +kernel)
set_option maxRecDepth 20000 in
theorem gL_law_X11_present : GoodIn wsL_law (wsV RL 229 RX11 yX11_present wsX11_present) := goodIn_app (goodIn_of _ (by decide +kernel)) ggL_law_X11_present
set_option maxRecDepth 20000 in
theorem ggL_law_X12_present : GoodIn wsL_law wsX12_present := goodIn_r _ [926, 918, 914, 915, 916, 5, 917, 913, 146, 147, 136, 882, 883, 884, 885, 137, 175, 176, 177, 886, 887, 888, 683, 684, 685, 686, 687, 688, 503, 504, 505, 289, 506, 507, 508, 509, 510, 442, 443, 444, 445, 174, 1309, 1310, 1311, 1312, 1313, 1314, 1315, 1316, 1317, 1318, 1319, 1320, 1321, 1322, 1323, 1324, 1325, 1326, 1327, 1328, 1329, 1330, 1331, 1332, 1333] (by decide +kernel) (by decide +kernel)
set_option maxRecDepth 20000 in
theorem gL_law_X12_present : GoodIn wsL_law (wsV RL 232 RX12 yX12_present wsX12_present) := goodIn_app (goodIn_of _ (by decide +kernel)) ggL_law_X12_present
set_option maxRecDepth 20000 in
theorem ggL_law_L_numberOf : GoodIn wsL_law wsL_numberOf := goodIn_ca (goodIn_r _ [929, 225, 930, 931, 932, 2, 933, 27, 700, 701, 702, 703, 230, 231, 704, 705, 706, 26, 707, 83, 893, 894, 895, 896, 897, 898, 84, 85, 899, 847, 848, 88, 849, 613, 95, 850, 851, 852, 853, 612, 645, 255, 256, 58, 257, 258, 757, 359, 360, 361, 70, 854, 855, 856, 857, 858, 859, 860, 861, 862, 863, 864, 865, 866, 867, 868, 869, 870, 871, 872, 873, 358, 874, 875, 876, 877, 614, 615, 639, 640, 641, 642, 96, 643, 644, 369, 370, 15, 371, 367, 41, 372, 900, 901, 902, 903, 818, 904, 905, 906, 907, 908, 934, 935, 936, 937, 1304, 1305, 1306, 1307, 1308, 1342, 1343, 1344, 1345, 1346, 1347, 1348, 1366, 1367, 1368, 1369, 1360, 1361, 1334] (by decide +kernel) (by decide +kernel)) (goodIn_sub (fun _ h => List.mem_append_left _ (List.mem_append_right _ h)) (by decide +kernel))
set_option maxRecDepth 20000 in
theorem gL_law_L_numberOf : GoodIn wsL_law (va_wsS RL 233 yL_numberOf wsL_numberOf) := goodIn_app (goodIn_of _ (by decide +kernel)) ggL_law_L_numberOf
set_option maxRecDepth 20000 in
theorem ggL_law_X12_numberOf : GoodIn wsL_law wsX12_numberOf := goodIn_r _ [941, 174, 147, 716, 717, 5, 718, 175, 176, 177, 181, 182, 183, 184, 914, 915, 916, 917, 913, 918, 146, 136, 882, 883, 884, 885, 137, 886, 887, 888, 683, 684, 685, 686, 687, 688, 503, 504, 505, 289, 506, 507, 508, 509, 510, 1309, 1310, 1311, 1312, 1313, 1314, 1315, 1316, 1317, 1318, 1319, 1320, 1321, 1322, 1323, 1324, 1325, 1326, 1327, 1328, 1329, 1330, 1331, 1332, 1333] (by decide +kernel) (by decide +kernel)
set_option maxRecDepth 20000 in
theorem gL_law_X12_numberOf : GoodIn wsL_law (wsV RL 235 RX12 yX12_numberOf wsX12_numberOf) := goodIn_app (goodIn_of _ (by decide +kernel)) ggL_law_X12_numberOf
set_option maxRecDepth 20000 in
theorem ggL_law_X11_spare : GoodIn wsL_law wsX11_spare := goodIn_r _ [945, 27, 893, 894, 895, 26, 896, 897, 898, 84, 85, 83, 899, 847, 848, 88, 849, 613, 95, 850, 851, 852, 853, 612, 645, 255, 256, 58, 257, 258, 757, 359, 360, 361, 70, 854, 855, 856, 857, 858, 859, 860, 861, 862, 863, 864, 865, 866, 867, 868, 869, 870, 871, 872, 873, 358, 874, 875, 876, 877, 614, 2, 615, 639, 640, 641, 642, 96, 643, 644, 369, 370, 15, 371, 367, 41, 372, 900, 901, 902, 903, 818, 705, 706, 707, 904, 905, 906, 907, 908, 946, 947, 948, 949, 950, 951, 388, 952, 953, 1304, 1305, 1306, 1307, 1308, 1342, 1343, 1344, 1345, 1346, 1347, 1348, 1366, 1367, 1368, 1369, 1360, 1361, 1334] (by decide +kernel) (by decide +kernel)
set_option maxRecDepth 20000 in
theorem gL_law_X11_spare : GoodIn wsL_law (wsV RL 236 RX11 yX11_spare wsX11_spare) := goodIn_app (goodIn_of _ (by decide +kernel)) ggL_law_X11_spare
set_option maxRecDepth 20000 in
theorem ggL_law_X12_spare : GoodIn wsL_law wsX12_spare := goodIn_r _ [957, 914, 915, 916, 5, 917, 913, 918, 146, 147, 136, 882, 883, 884, 885, 137, 175, 176, 177, 886, 887, 888, 683, 684, 685, 686, 687, 688, 503, 504, 505, 289, 506, 507, 508, 509, 510, 958, 959, 960, 961, 442, 443, 444, 445, 174, 1309, 1310, 1311, 1312, 1313, 1314, 1315, 1316, 1317, 1318, 1319, 1320, 1321, 1322, 1323, 1324, 1325, 1326, 1327, 1328, 1329, 1330, 1331, 1332, 1333] (by decide +kernel) (by decide +kernel)
set_option maxRecDepth 20000 in
theorem gL_law_X12_spare : GoodIn wsL_law (wsV RL 239 RX12 yX12_spare wsX12_spare) := goodIn_app (goodIn_of _ (by decide +kernel)) ggL_law_X12_spare
set_option maxRecDepth 20000 in
theorem ggL_law_L_repair : GoodIn wsL_law wsL_repair := goodIn_ca (goodIn_r _ [964, 247, 965, 966, 967, 2, 968, 27, 35, 969, 970, 971, 972, 252, 253, 599, 600, 601, 26, 602, 83, 89, 603, 604, 605, 606, 86, 607, 255, 256, 58, 257, 258, 608, 609, 610, 88, 611, 612, 613, 95, 614, 615, 616, 350, 351, 352, 617, 264, 265, 266, 70, 618, 588, 589, 590, 263, 619, 260, 261, 262, 620, 621, 622, 18, 623, 624, 233, 234, 235, 236, 197, 198, 199, 51, 166, 167, 168, 169, 50, 625, 626, 627, 628, 629, 359, 360, 361, 630, 163, 164, 165, 631, 632, 633, 634, 635, 636, 637, 638, 639, 640, 641, 642, 96, 643, 644, 369, 370, 15, 371, 367, 41, 372, 645, 646, 647, 648, 649, 650, 651, 652, 653, 654, 655, 656, 657, 658, 659, 660, 661, 662, 353, 358, 1304, 1305, 1306, 1307, 1308, 1352, 1353, 1354, 1355, 1356, 1357, 1358, 1359, 1342, 1343, 1344, 1345, 1346, 1347, 1348, 1366, 1367, 1368, 1369, 1360, 1361, 1335, 1336, 1334] (by decide +kernel) (by decide +kernel)) (goodIn_sub (fun _ h => List.mem_append_right _ h) (by decide +kernel))
set_option maxRecDepth 20000 in
theorem gL_law_L_repair : GoodIn wsL_law (va_wsS RL 240 yL_repair wsL_repair) := goodIn_app (goodIn_of _ (by decide +kernel)) ggL_law_L_repair
set_option maxRecDepth 20000 in
theorem ggL_law_X12_repair : GoodIn wsL_law wsX12_repair := goodIn_r _ [976, 174, 668, 138, 977, 978, 676, 677, 678, 5, 679, 137, 136, 680, 681, 682, 40, 683, 684, 685, 673, 674, 675, 241, 242, 243, 204, 205, 206, 178, 179, 180, 686, 687, 688, 503, 504, 505, 289, 506, 507, 508, 509, 510, 689, 690, 691, 692, 181, 182, 183, 184, 1309, 1310, 1311, 1312, 1313, 1314, 1315, 1316, 1317, 1318, 1319, 1320, 1321, 1322, 1323, 1324, 1325, 1326, 1327, 1328, 1329, 1330, 1331, 1332, 1333] (by decide +kernel) (by decide +kernel)
set_option maxRecDepth 20000 in
theorem gL_law_X12_repair : GoodIn wsL_law (wsV RL 243 RX12 yX12_repair wsX12_repair) := goodIn_app (goodIn_of _ (by decide +kernel)) ggL_law_X12_repair
set_option maxRecDepth 20000 in
theorem ggL_law_X11_open : GoodIn wsL_law wsX11_open := goodIn_r _ [982, 35, 27, 31, 572, 573, 574, 34, 575, 576, 893, 894, 895, 26, 896, 897, 898, 84, 85, 83, 899, 847, 848, 88, 849, 613, 95, 850, 851, 852, 853, 612, 645, 255, 256, 58, 257, 258, 757, 359, 360, 361, 70, 854, 855, 856, 857, 858, 859, 860, 861, 862, 863, 864, 865, 866, 867, 868, 869, 870, 871, 872, 873, 358, 874, 875, 876, 877, 614, 2, 615, 639, 640, 641, 642, 96, 643, 644, 369, 370, 15, 371, 367, 41, 372, 900, 901, 902, 903, 818, 705, 706, 707, 904, 905, 906, 907, 908, 704, 946, 947, 948, 949, 950, 951, 388, 952, 953, 983, 984, 985, 30, 986, 987, 387, 389, 988, 989, 990, 991, 992, 993, 104, 994, 995, 996, 997, 998, 999, 1000, 1001, 103, 105, 1002, 350, 351, 352, 1003, 260, 261, 262, 263, 264, 265, 266, 1004, 621, 622, 18, 623, 624, 233, 234, 235, 236, 197, 198, 199, 51, 166, 167, 168, 169, 50, 1005, 632, 633, 634, 1006, 1007, 1008, 1009, 1010, 1011, 1012, 1013, 1014, 1015, 1016, 163, 164, 165, 1017, 626, 627, 628, 629, 630, 631, 1018, 355, 356, 357, 1019, 1020, 1021, 1022, 1023, 1024, 1025, 299, 300, 301, 1026, 1027, 1028, 1029, 1030, 1031, 1032, 1033, 1034, 1035, 1036, 1037, 1038, 1039, 113, 116, 1040, 1041, 1042, 1043, 1044, 1045, 1046, 1047, 364, 365, 366, 368, 1048, 1049, 1050, 1051, 115, 1052, 1053, 1054, 1055, 1056, 1057, 1058, 1059, 1060, 1061, 1062, 1063, 1064, 1065, 1066, 1067, 1068, 1069, 1070, 1071, 1072, 1073, 1074, 1075, 1076, 1077, 1078, 1079, 1080, 1081, 1082, 375, 1083, 377, 382, 378, 1084, 394, 1085, 1086, 1304, 1305, 1306, 1307, 1308, 1342, 1343, 1344, 1345, 1346, 1347, 1348, 1352, 1353, 1354, 1355, 1356, 1357, 1358, 1359, 1366, 1367, 1368, 1369, 1360, 1361, 1334, 1349, 1350, 1351, 1335, 1336, 1370, 1371, 1372, 1373, 1374] (by decide +kernel) (by decide +kernel)
set_option maxRecDepth 20000 in
theorem gL_law_X11_open : GoodIn wsL_law (wsV RL 244 RX11 yX11_open wsX11_open) := goodIn_app (goodIn_of _ (by decide +kernel)) ggL_law_X11_open
set_option maxRecDepth 20000 in
theorem ggL_law_X12_open : GoodIn wsL_law wsX12_open := goodIn_r _ [1090, 174, 668, 136, 913, 135, 40, 413, 414, 415, 416, 977, 978, 138, 914, 915, 916, 5, 917, 918, 146, 147, 882, 883, 884, 885, 137, 175, 176, 177, 886, 887, 888, 683, 684, 685, 686, 687, 688, 503, 504, 505, 289, 506, 507, 508, 509, 510, 958, 959, 960, 961, 1091, 1092, 1093, 1094, 1095, 1096, 1097, 1098, 133, 241, 242, 243, 204, 205, 206, 178, 179, 180, 1099, 1100, 1101, 1102, 1103, 1104, 1105, 1106, 1107, 1108, 1109, 1110, 1111, 1112, 1113, 1114, 1115, 1116, 1117, 1118, 1119, 1120, 1121, 139, 140, 141, 142, 1122, 1123, 1124, 1125, 144, 1126, 1127, 1128, 1129, 1130, 1131, 1132, 1133, 1309, 1310, 1311, 1312, 1313, 1314, 1315, 1316, 1317, 1318, 1319, 1320, 1321, 1322, 1323, 1324, 1325, 1326, 1327, 1328, 1329, 1330, 1331, 1332, 1333] (by decide +kernel) (by decide +kernel)
set_option maxRecDepth 20000 in
theorem gL_law_X12_open : GoodIn wsL_law (wsV RL 247 RX12 yX12_open wsX12_open) := goodIn_app (goodIn_of _ (by decide +kernel)) ggL_law_X12_open
set_option maxRecDepth 20000 in
theorem ggL_law_L_opened : GoodIn wsL_law wsL_opened := goodIn_ca (goodIn_r _ [1136, 247, 1137, 1138, 1139, 2, 1140, 35, 969, 970, 971, 972, 252, 253, 254, 255, 256, 58, 257, 258, 1304, 1305, 1306, 1307, 1308, 1352, 1353, 1354, 1355, 1356, 1357, 1358, 1359, 1360, 1361] (by decide +kernel) (by decide +kernel)) (goodIn_sub (fun _ h => List.mem_append_right _ h) (by decide +kernel))
set_option maxRecDepth 20000 in
theorem gL_law_L_opened : GoodIn wsL_law (va_wsS RL 248 yL_opened wsL_opened) := goodIn_app (goodIn_of _ (by decide +kernel)) ggL_law_L_opened
set_option maxRecDepth 20000 in
theorem ggL_law_X12_opened : GoodIn wsL_law wsX12_opened := goodIn_r _ [1144, 174, 668, 138, 181, 182, 183, 5, 184, 1309, 1310, 1311, 1312, 1313, 1314, 1315, 1316, 1317, 1318, 1319, 1320, 1321, 1322, 1323, 1324, 1325, 1326, 1327, 1328, 1329, 1330, 1331, 1332, 1333] (by decide +kernel) (by decide +kernel)
set_option maxRecDepth 20000 in
theorem gL_law_X12_opened : GoodIn wsL_law (wsV RL 250 RX12 yX12_opened wsX12_opened) := goodIn_app (goodIn_of _ (by decide +kernel)) ggL_law_X12_opened
set_option maxRecDepth 20000 in
theorem ggL_law_L_streamAt : GoodIn wsL_law wsL_streamAt := goodIn_ca (goodIn_ca (goodIn_r _ [1147, 247, 225, 1148, 1149, 1150, 2, 1151, 35, 969, 970, 971, 972, 252, 253, 484, 485, 486, 230, 231, 254, 255, 256, 58, 257, 258, 487, 359, 360, 361, 70, 1304, 1305, 1306, 1307, 1308, 1352, 1353, 1354, 1355, 1356, 1357, 1358, 1359, 1360, 1361] (by decide +kernel) (by decide +kernel)) (goodIn_sub (fun _ h => List.mem_append_right _ h) (by decide +kernel))) (goodIn_sub (fun _ h => List.mem_append_left _ (List.mem_append_right _ h)) (by decide +kernel))
set_option maxRecDepth 20000 in
theorem gL_law_L_streamAt : GoodIn wsL_law (va_wsS RL 251 yL_streamAt wsL_streamAt) := goodIn_app (goodIn_of _ (by decide +kernel)) ggL_law_L_streamAt
set_option maxRecDepth 20000 in
theorem ggL_law_X12_streamAt : GoodIn wsL_law wsX12_streamAt := goodIn_r _ [1155, 174, 668, 138, 181, 182, 183, 5, 184, 175, 176, 177, 1309, 1310, 1311, 1312, 1313, 1314, 1315, 1316, 1317, 1318, 1319, 1320, 1321, 1322, 1323, 1324, 1325, 1326, 1327, 1328, 1329, 1330, 1331, 1332, 1333] (by decide +kernel) (by decide +kernel)
set_option maxRecDepth 20000 in
theorem gL_law_X12_streamAt : GoodIn wsL_law (wsV RL 253 RX12 yX12_streamAt wsX12_streamAt) := goodIn_app (goodIn_of _ (by decide +kernel)) ggL_law_X12_streamAt
set_option maxRecDepth 20000 in
theorem ggL_law_L_hasIndex : GoodIn wsL_law wsL_hasIndex := goodIn_ca (goodIn_r _ [1158, 247, 1159, 1160, 1161, 2, 1162, 35, 969, 970, 971, 972, 252, 253, 1304, 1305, 1306, 1307, 1308, 1352, 1353, 1354, 1355, 1356, 1357, 1358, 1359] (by decide +kernel) (by decide +kernel)) (goodIn_sub (fun _ h => List.mem_append_right _ h) (by decide +kernel))
set_option maxRecDepth 20000 in
theorem gL_law_L_hasIndex : GoodIn wsL_law (va_wsS RL 254 yL_hasIndex wsL_hasIndex) := goodIn_app (goodIn_of _ (by decide +kernel)) ggL_law_L_hasIndex
set_option maxRecDepth 20000 in
theorem ggL_law_X12_hasIndex : GoodIn wsL_law wsX12_hasIndex := goodIn_r _ [1166, 174, 668, 1112, 803, 804, 805, 5, 806, 1309, 1310, 1311, 1312, 1313, 1314, 1315, 1316, 1317, 1318, 1319, 1320, 1321, 1322, 1323, 1324, 1325, 1326, 1327, 1328, 1329, 1330, 1331, 1332, 1333] (by decide +kernel) (by decide +kernel)
set_option maxRecDepth 20000 in
theorem gL_law_X12_hasIndex : GoodIn wsL_law (wsV RL 256 RX12 yX12_hasIndex wsX12_hasIndex) := goodIn_app (goodIn_of _ (by decide +kernel)) ggL_law_X12_hasIndex
set_option maxRecDepth 20000 in
theorem ggL_law_L_found : GoodIn wsL_law wsL_found := goodIn_ca (goodIn_r _ [1169, 247, 1170, 1171, 1172, 2, 1173, 35, 969, 970, 971, 972, 252, 253, 1304, 1305, 1306, 1307, 1308, 1352, 1353, 1354, 1355, 1356, 1357, 1358, 1359] (by decide +kernel) (by decide +kernel)) (goodIn_sub (fun _ h => List.mem_append_right _ h) (by decide +kernel))
set_option maxRecDepth 20000 in
theorem gL_law_L_found : GoodIn wsL_law (va_wsS RL 257 yL_found wsL_found) := goodIn_app (goodIn_of _ (by decide +kernel)) ggL_law_L_found
set_option maxRecDepth 20000 in
theorem ggL_law_X12_found : GoodIn wsL_law wsX12_found := goodIn_r _ [1177, 174, 668, 1113, 181, 182, 183, 5, 184, 1309, 1310, 1311, 1312, 1313, 1314, 1315, 1316, 1317, 1318, 1319, 1320, 1321, 1322, 1323, 1324, 1325, 1326, 1327, 1328, 1329, 1330, 1331, 1332, 1333] (by decide +kernel) (by decide +kernel)
set_option maxRecDepth 20000 in
theorem gL_law_X12_found : GoodIn wsL_law (wsV RL 259 RX12 yX12_found wsX12_found) := goodIn_app (goodIn_of _ (by decide +kernel)) ggL_law_X12_found
set_option maxRecDepth 20000 in
theorem ggL_law_L_keyFound : GoodIn wsL_law wsL_keyFound := goodIn_ca (goodIn_ca (goodIn_r _ [1180, 247, 225, 1181, 1182, 1183, 2, 1184, 1185, 1186, 1187, 1188, 230, 231, 35, 969, 970, 971, 972, 252, 253, 1189, 1054, 1055, 34, 1056, 1035, 115, 1370, 1371, 1372, 1373, 1374, 1304, 1305, 1306, 1307, 1308, 1352, 1353, 1354, 1355, 1356, 1357, 1358, 1359] (by decide +kernel) (by decide +kernel)) (goodIn_sub (fun _ h => List.mem_append_left _ (List.mem_append_right _ h)) (by decide +kernel))) (goodIn_sub (fun _ h => List.mem_append_right _ h) (by decide +kernel))
set_option maxRecDepth 20000 in
theorem gL_law_L_keyFound : GoodIn wsL_law (va_wsS RL 260 yL_keyFound wsL_keyFound) := goodIn_app (goodIn_of _ (by decide +kernel)) ggL_law_L_keyFound
set_option maxRecDepth 20000 in
theorem ggL_law_X12_keyFound : GoodIn wsL_law wsX12_keyFound := goodIn_r _ [1193, 139, 1194, 1195, 1196, 5, 1197, 174, 668, 1113, 181, 182, 183, 184, 175, 176, 177, 1309, 1310, 1311, 1312, 1313, 1314, 1315, 1316, 1317, 1318, 1319, 1320, 1321, 1322, 1323, 1324, 1325, 1326, 1327, 1328, 1329, 1330, 1331, 1332, 1333] (by decide +kernel) (by decide +kernel)
set_option maxRecDepth 20000 in
theorem gL_law_X12_keyFound : GoodIn wsL_law (wsV RL 262 RX12 yX12_keyFound wsX12_keyFound) := goodIn_app (goodIn_of _ (by decide +kernel)) ggL_law_X12_keyFound
set_option maxRecDepth 20000 in
theorem ggL_law_L_placeFound : GoodIn wsL_law wsL_placeFound := goodIn_ca (goodIn_ca (goodIn_r _ [1200, 247, 225, 1201, 1202, 1203, 2, 1204, 1185, 1186, 1187, 1188, 230, 231, 35, 969, 970, 971, 972, 252, 253, 1189, 1054, 1055, 34, 1056, 1035, 115, 1370, 1371, 1372, 1373, 1374, 1304, 1305, 1306, 1307, 1308, 1352, 1353, 1354, 1355, 1356, 1357, 1358, 1359] (by decide +kernel) (by decide +kernel)) (goodIn_sub (fun _ h => List.mem_append_left _ (List.mem_append_right _ h)) (by decide +kernel))) (goodIn_sub (fun _ h => List.mem_append_right _ h) (by decide +kernel))
set_option maxRecDepth 20000 in
theorem gL_law_L_placeFound : GoodIn wsL_law (va_wsS RL 263 yL_placeFound wsL_placeFound) := goodIn_app (goodIn_of _ (by decide +kernel)) ggL_law_L_placeFound
set_option maxRecDepth 20000 in
theorem ggL_law_X12_placeFound : GoodIn wsL_law wsX12_placeFound := goodIn_r _ [1208, 140, 1194, 1195, 1196, 5, 1197, 174, 668, 1113, 181, 182, 183, 184, 175, 176, 177, 1309, 1310, 1311, 1312, 1313, 1314, 1315, 1316, 1317, 1318, 1319, 1320, 1321, 1322, 1323, 1324, 1325, 1326, 1327, 1328, 1329, 1330, 1331, 1332, 1333] (by decide +kernel) (by decide +kernel)
set_option maxRecDepth 20000 in
theorem gL_law_X12_placeFound : GoodIn wsL_law (wsV RL 265 RX12 yX12_placeFound wsX12_placeFound) := goodIn_app (goodIn_of _ (by decide +kernel)) ggL_law_X12_placeFound
set_option maxRecDepth 20000 in
theorem ggL_law_L_isGood : GoodIn wsL_law wsL_isGood := goodIn_ca (goodIn_ca (goodIn_r _ [1211, 247, 225, 1212, 1213, 1214, 2, 1215, 1185, 1186, 1187, 1188, 230, 231, 35, 969, 970, 971, 972, 252, 253, 1189, 1054, 1055, 34, 1056, 1035, 115, 1370, 1371, 1372, 1373, 1374, 1304, 1305, 1306, 1307, 1308, 1352, 1353, 1354, 1355, 1356, 1357, 1358, 1359] (by decide +kernel) (by decide +kernel)) (goodIn_sub (fun _ h => List.mem_append_left _ (List.mem_append_right _ h)) (by decide +kernel))) (goodIn_sub (fun _ h => List.mem_append_right _ h) (by decide +kernel))
set_option maxRecDepth 20000 in
theorem gL_law_L_isGood : GoodIn wsL_law (va_wsS RL 266 yL_isGood wsL_isGood) := goodIn_app (goodIn_of _ (by decide +kernel)) ggL_law_L_isGood
set_option maxRecDepth 20000 in
theorem ggL_law_X12_isGood : GoodIn wsL_law wsX12_isGood := goodIn_r _ [1219, 142, 174, 1194, 1195, 1196, 5, 1197, 668, 1113, 181, 182, 183, 184, 175, 176, 177, 1309, 1310, 1311, 1312, 1313, 1314, 1315, 1316, 1317, 1318, 1319, 1320, 1321, 1322, 1323, 1324, 1325, 1326, 1327, 1328, 1329, 1330, 1331, 1332, 1333] (by decide +kernel) (by decide +kernel)
set_option maxRecDepth 20000 in
theorem gL_law_X12_isGood : GoodIn wsL_law (wsV RL 268 RX12 yX12_isGood wsX12_isGood) := goodIn_app (goodIn_of _ (by decide +kernel)) ggL_law_X12_isGood
set_option maxRecDepth 20000 in
theorem ggL_law_L_lengthFound : GoodIn wsL_law wsL_lengthFound := goodIn_ca (goodIn_ca (goodIn_r _ [1222, 247, 225, 1223, 1224, 1225, 2, 1226, 1185, 1186, 1187, 1188, 230, 231, 35, 969, 970, 971, 972, 252, 253, 1189, 1054, 1055, 34, 1056, 1035, 115, 1227, 1228, 1229, 118, 1230, 1231, 124, 1232, 255, 256, 58, 257, 258, 1304, 1305, 1306, 1307, 1308, 1352, 1353, 1354, 1355, 1356, 1357, 1358, 1359, 1370, 1371, 1372, 1373, 1374, 1360, 1361] (by decide +kernel) (by decide +kernel)) (goodIn_sub (fun _ h => List.mem_append_left _ (List.mem_append_right _ h)) (by decide +kernel))) (goodIn_sub (fun _ h => List.mem_append_right _ h) (by decide +kernel))
set_option maxRecDepth 20000 in
theorem gL_law_L_lengthFound : GoodIn wsL_law (va_wsS RL 269 yL_lengthFound wsL_lengthFound) := goodIn_app (goodIn_of _ (by decide +kernel)) ggL_law_L_lengthFound
set_option maxRecDepth 20000 in
theorem ggL_law_X12_lengthFound : GoodIn wsL_law wsX12_lengthFound := goodIn_r _ [1236, 142, 1194, 1195, 1196, 5, 1197, 174, 668, 1113, 181, 182, 183, 184, 175, 176, 177, 1309, 1310, 1311, 1312, 1313, 1314, 1315, 1316, 1317, 1318, 1319, 1320, 1321, 1322, 1323, 1324, 1325, 1326, 1327, 1328, 1329, 1330, 1331, 1332, 1333] (by decide +kernel) (by decide +kernel)
set_option maxRecDepth 20000 in
theorem gL_law_X12_lengthFound : GoodIn wsL_law (wsV RL 271 RX12 yX12_lengthFound wsX12_lengthFound) := goodIn_app (goodIn_of _ (by decide +kernel)) ggL_law_X12_lengthFound
set_option maxRecDepth 20000 in
theorem ggL_law_L_byteFound : GoodIn wsL_law wsL_byteFound := goodIn_ca (goodIn_ca (goodIn_r _ [1239, 247, 225, 1240, 1241, 1242, 2, 1243, 230, 231, 1185, 1186, 1187, 1188, 35, 969, 970, 971, 972, 252, 253, 1189, 1054, 1055, 34, 1056, 1035, 115, 484, 485, 486, 254, 255, 256, 58, 257, 258, 487, 359, 360, 361, 70, 1370, 1371, 1372, 1373, 1374, 1304, 1305, 1306, 1307, 1308, 1352, 1353, 1354, 1355, 1356, 1357, 1358, 1359, 1360, 1361] (by decide +kernel) (by decide +kernel)) (goodIn_sub (fun _ h => List.mem_append_left _ (List.mem_append_right _ h)) (by decide +kernel))) (goodIn_sub (fun _ h => List.mem_append_right _ h) (by decide +kernel))
set_option maxRecDepth 20000 in
theorem gL_law_L_byteFound : GoodIn wsL_law (va_wsS RL 272 yL_byteFound wsL_byteFound) := goodIn_app (goodIn_of _ (by decide +kernel)) ggL_law_L_byteFound
set_option maxRecDepth 20000 in
theorem ggL_law_X12_byteFound : GoodIn wsL_law wsX12_byteFound := goodIn_r _ [1247, 142, 174, 144, 1194, 1195, 1196, 5, 1197, 668, 1113, 181, 182, 183, 184, 175, 176, 177, 1122, 1123, 1124, 1125, 140, 138, 139, 141, 1126, 1127, 1128, 1129, 886, 887, 888, 1130, 1131, 1132, 1133, 503, 504, 505, 289, 506, 507, 508, 509, 510, 1309, 1310, 1311, 1312, 1313, 1314, 1315, 1316, 1317, 1318, 1319, 1320, 1321, 1322, 1323, 1324, 1325, 1326, 1327, 1328, 1329, 1330, 1331, 1332, 1333] (by decide +kernel) (by decide +kernel)
set_option maxRecDepth 20000 in
theorem gL_law_X12_byteFound : GoodIn wsL_law (wsV RL 274 RX12 yX12_byteFound wsX12_byteFound) := goodIn_app (goodIn_of _ (by decide +kernel)) ggL_law_X12_byteFound
set_option maxRecDepth 20000 in
theorem ggL_law_L_restore : GoodIn wsL_law wsL_restore := goodIn_ca (goodIn_r _ [1250, 247, 1251, 1252, 1253, 2, 1254, 35, 23, 969, 970, 971, 972, 252, 253, 1189, 1054, 1055, 34, 1056, 1035, 115, 313, 314, 315, 22, 316, 317, 62, 318, 319, 320, 321, 322, 323, 324, 325, 326, 327, 328, 329, 330, 331, 332, 333, 63, 334, 335, 336, 337, 338, 339, 340, 341, 65, 342, 343, 75, 344, 76, 345, 346, 347, 58, 348, 349, 350, 351, 352, 258, 353, 255, 256, 257, 354, 355, 356, 357, 358, 359, 360, 361, 70, 263, 264, 265, 266, 362, 363, 364, 365, 15, 366, 367, 368, 369, 370, 371, 41, 372, 373, 374, 375, 376, 377, 378, 379, 380, 381, 382, 383, 384, 385, 386, 387, 388, 389, 390, 391, 392, 393, 394, 1304, 1305, 1306, 1307, 1308, 1352, 1353, 1354, 1355, 1356, 1357, 1358, 1359, 1370, 1371, 1372, 1373, 1374, 1337, 1338, 1339, 1340, 1341, 1362, 1363, 1364, 1365, 1360, 1361, 1334] (by decide +kernel) (by decide +kernel)) (goodIn_sub (fun _ h => List.mem_append_right _ h) (by decide +kernel))
set_option maxRecDepth 20000 in
theorem gL_law_L_restore : GoodIn wsL_law (va_wsS RL 275 yL_restore wsL_restore) := goodIn_app (goodIn_of _ (by decide +kernel)) ggL_law_L_restore
set_option maxRecDepth 20000 in
theorem ggL_law_X12_restore : GoodIn wsL_law wsX12_restore := goodIn_r _ [1258, 174, 668, 1113, 142, 404, 139, 144, 181, 182, 183, 5, 184, 405, 406, 407, 408, 131, 1122, 1123, 1124, 1125, 140, 138, 141, 1126, 1127, 1128, 1129, 886, 887, 888, 1130, 1131, 1132, 1133, 503, 504, 505, 289, 506, 507, 508, 509, 510, 409, 410, 411, 412, 132, 134, 413, 414, 415, 416, 417, 418, 419, 420, 1309, 1310, 1311, 1312, 1313, 1314, 1315, 1316, 1317, 1318, 1319, 1320, 1321, 1322, 1323, 1324, 1325, 1326, 1327, 1328, 1329, 1330, 1331, 1332, 1333] (by decide +kernel) (by decide +kernel)
set_option maxRecDepth 20000 in
theorem gL_law_X12_restore : GoodIn wsL_law (wsV RL 277 RX12 yX12_restore wsX12_restore) := goodIn_app (goodIn_of _ (by decide +kernel)) ggL_law_X12_restore
set_option maxRecDepth 20000 in
theorem ggL_law_X11_cost : GoodIn wsL_law wsX11_cost := goodIn_r _ [1262, 23, 27, 1263, 1264, 1265, 22, 1266, 317, 326, 327, 328, 329, 62, 429, 255, 256, 58, 257, 258, 1267, 1268, 1269, 26, 1270, 83, 950, 951, 388, 952, 1271, 709, 710, 88, 711, 612, 95, 645, 1304, 1305, 1306, 1307, 1308, 1337, 1338, 1339, 1340, 1341, 1362, 1363, 1364, 1365, 1360, 1361, 1342, 1343, 1344, 1345, 1346, 1347, 1348, 1366, 1367, 1368, 1369] (by decide +kernel) (by decide +kernel)
set_option maxRecDepth 20000 in
theorem gL_law_X11_cost : GoodIn wsL_law (wsV RL 278 RX11 yX11_cost wsX11_cost) := goodIn_app (goodIn_of _ (by decide +kernel)) ggL_law_X11_cost
set_option maxRecDepth 20000 in
theorem ggL_law_X12_cost : GoodIn wsL_law wsX12_cost := goodIn_r _ [1275, 174, 137, 1276, 951, 388, 952, 404, 132, 1309, 1310, 1311, 1312, 1313, 1314, 1315, 1316, 1317, 1318, 1319, 1320, 1321, 1322, 1323, 1324, 1325, 1326, 1327, 1328, 1329, 1330, 1331, 1332, 1333] (by decide +kernel) (by decide +kernel)
set_option maxRecDepth 20000 in
theorem gL_law_X12_cost : GoodIn wsL_law (wsV RL 282 RX12 yX12_cost wsX12_cost) := goodIn_app (goodIn_of _ (by decide +kernel)) ggL_law_X12_cost
set_option maxRecDepth 20000 in
theorem ggL_law_X11_digest : GoodIn wsL_law wsX11_digest := goodIn_r _ [1280, 27, 1281, 893, 894, 895, 26, 896, 897, 898, 84, 85, 83, 899, 847, 848, 88, 849, 613, 95, 850, 851, 852, 853, 612, 645, 255, 256, 58, 257, 258, 757, 359, 360, 361, 70, 854, 855, 856, 857, 858, 859, 860, 861, 862, 863, 864, 865, 866, 867, 868, 869, 870, 871, 872, 873, 358, 874, 875, 876, 877, 614, 2, 615, 639, 640, 641, 642, 96, 643, 644, 369, 370, 15, 371, 367, 41, 372, 900, 901, 902, 903, 818, 705, 706, 707, 904, 905, 906, 907, 908, 1282, 1283, 1284, 1285, 23, 396, 397, 398, 22, 399, 317, 1286, 1287, 1288, 1289, 544, 545, 546, 547, 326, 327, 328, 329, 62, 548, 549, 550, 65, 551, 76, 75, 552, 553, 554, 555, 362, 457, 254, 1290, 1291, 1292, 1293, 704, 708, 709, 710, 711, 846, 934, 935, 936, 937, 487, 946, 947, 948, 949, 950, 951, 388, 952, 953, 1294, 1295, 1296, 1297, 35, 1189, 1054, 1055, 34, 1056, 1035, 115, 1227, 1228, 1229, 118, 1230, 1231, 124, 1232, 1304, 1305, 1306, 1307, 1308, 1342, 1343, 1344, 1345, 1346, 1347, 1348, 1366, 1367, 1368, 1369, 1360, 1361, 1334, 1362, 1363, 1364, 1365, 1337, 1338, 1339, 1340, 1341, 1352, 1353, 1354, 1355, 1356, 1357, 1358, 1359, 1370, 1371, 1372, 1373, 1374] (by decide +kernel) (by decide +kernel)
set_option maxRecDepth 20000 in
theorem gL_law_X11_digest : GoodIn wsL_law (wsV RL 283 RX11 yX11_digest wsX11_digest) := goodIn_app (goodIn_of _ (by decide +kernel)) ggL_law_X11_digest
set_option maxRecDepth 20000 in
theorem ggL_law_X12_digest : GoodIn wsL_law wsX12_digest := goodIn_r _ [1301, 174, 1302, 404, 1303, 131, 132, 134, 137, 146, 147, 136, 913, 918, 668, 138, 1112, 1113, 139, 140, 142, 560, 561, 562, 5, 563, 564, 387, 388, 389, 522, 523, 524, 525, 143, 526, 527, 528, 503, 504, 505, 289, 506, 507, 508, 509, 510, 914, 915, 916, 917, 882, 883, 884, 885, 175, 176, 177, 886, 887, 888, 683, 684, 685, 686, 687, 688, 958, 959, 960, 961, 1309, 1310, 1311, 1312, 1313, 1314, 1315, 1316, 1317, 1318, 1319, 1320, 1321, 1322, 1323, 1324, 1325, 1326, 1327, 1328, 1329, 1330, 1331, 1332, 1333] (by decide +kernel) (by decide +kernel)
set_option maxRecDepth 20000 in
theorem gL_law_X12_digest : GoodIn wsL_law (wsV RL 287 RX12 yX12_digest wsX12_digest) := goodIn_app (goodIn_of _ (by decide +kernel)) ggL_law_X12_digest
