set_option maxRecDepth 20000 in
theorem ggL_law_X11_lose : GoodIn wsL_law wsX11_lose := goodIn_ca (goodIn_r _ [417, 418, 419, 420, 13, 421, 422, 423, 38, 424, 425, 426, 37, 427, 93, 428, 429, 430, 98, 431, 348, 432, 402, 403, 404, 105, 349, 352, 248, 249, 68, 250, 188, 773, 774, 775, 776, 777, 786, 787, 788, 789, 790, 791, 792, 810, 811, 812, 813, 804, 805] (by decide +kernel) (by decide +kernel)) (goodIn_sub (fun _ h => List.mem_append_right _ h) (by decide +kernel))
set_option maxRecDepth 20000 in
theorem gL_law_X11_lose : GoodIn wsL_law (wsV RL 66 RX11 yX11_lose wsX11_lose) := goodIn_app (goodIn_of _ (by decide +kernel)) ggL_law_X11_lose
set_option maxRecDepth 20000 in
theorem ggL_law_X11_exchange : GoodIn wsL_law wsX11_exchange := goodIn_ca (goodIn_r _ [436, 38, 418, 419, 420, 13, 421, 422, 423, 424, 425, 426, 37, 427, 93, 437, 438, 439, 440, 441, 428, 429, 430, 98, 431, 348, 773, 774, 775, 776, 777, 786, 787, 788, 789, 790, 791, 792, 810, 811, 812, 813] (by decide +kernel) (by decide +kernel)) (goodIn_sub (fun _ h => List.mem_append_right _ h) (by decide +kernel))
set_option maxRecDepth 20000 in
theorem gL_law_X11_exchange : GoodIn wsL_law (wsV RL 70 RX11 yX11_exchange wsX11_exchange) := goodIn_app (goodIn_of _ (by decide +kernel)) ggL_law_X11_exchange
set_option maxRecDepth 20000 in
theorem ggL_law_X11_sizeOf : GoodIn wsL_law wsX11_sizeOf := goodIn_ca (goodIn_r _ [445, 418, 419, 420, 13, 421, 422, 423, 38, 424, 425, 426, 37, 427, 93, 446, 447, 448, 98, 449, 348, 105, 395, 185, 186, 68, 187, 188, 773, 774, 775, 776, 777, 786, 787, 788, 789, 790, 791, 792, 810, 811, 812, 813, 804, 805] (by decide +kernel) (by decide +kernel)) (goodIn_sub (fun _ h => List.mem_append_right _ h) (by decide +kernel))
set_option maxRecDepth 20000 in
theorem gL_law_X11_sizeOf : GoodIn wsL_law (wsV RL 73 RX11 yX11_sizeOf wsX11_sizeOf) := goodIn_app (goodIn_of _ (by decide +kernel)) ggL_law_X11_sizeOf
set_option maxRecDepth 20000 in
theorem ggL_law_X11_copy : GoodIn wsL_law wsX11_copy := goodIn_ca (goodIn_r _ [453, 454, 455, 456, 13, 457, 422, 423, 418, 419, 420, 421, 38, 424, 425, 426, 37, 427, 93, 428, 429, 430, 98, 431, 348, 458, 459, 460, 461, 105, 349, 462, 244, 245, 68, 246, 247, 248, 249, 250, 188, 251, 185, 186, 187, 252, 253, 254, 255, 256, 257, 258, 259, 80, 193, 194, 195, 196, 446, 447, 448, 449, 395, 773, 774, 775, 776, 777, 786, 787, 788, 789, 790, 791, 792, 810, 811, 812, 813, 804, 805] (by decide +kernel) (by decide +kernel)) (goodIn_sub (fun _ h => List.mem_append_right _ h) (by decide +kernel))
set_option maxRecDepth 20000 in
theorem gL_law_X11_copy : GoodIn wsL_law (wsV RL 76 RX11 yX11_copy wsX11_copy) := goodIn_app (goodIn_of _ (by decide +kernel)) ggL_law_X11_copy
