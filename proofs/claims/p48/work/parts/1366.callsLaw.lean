set_option maxRecDepth 20000 in
theorem ggL_law_X11_placeFound : GoodIn wsL_law wsX11_placeFound := goodIn_ca (goodIn_ca (goodIn_r _ [750, 735, 736, 737, 13, 738, 422, 423, 46, 723, 724, 725, 726, 179, 180, 577, 578, 579, 45, 580, 581, 125, 814, 815, 816, 817, 818, 773, 774, 775, 776, 777, 796, 797, 798, 799, 800, 801, 802, 803] (by decide +kernel) (by decide +kernel)) (goodIn_sub (fun _ h => List.mem_append_right _ h) (by decide +kernel))) (goodIn_sub (fun _ h => List.mem_append_left _ (List.mem_append_right _ h)) (by decide +kernel))
set_option maxRecDepth 20000 in
theorem gL_law_X11_placeFound : GoodIn wsL_law (wsV RL 130 RX11 yX11_placeFound wsX11_placeFound) := goodIn_app (goodIn_of _ (by decide +kernel)) ggL_law_X11_placeFound
set_option maxRecDepth 20000 in
theorem ggL_law_L_check : GoodIn wsL_law wsL_check := goodIn_r _ [753, 754] (by decide +kernel) (by decide +kernel)
set_option maxRecDepth 20000 in
theorem gL_law_L_check : GoodIn wsL_law (va_wsS RL 38 yL_check wsL_check) := goodIn_app (goodIn_of _ (by decide +kernel)) ggL_law_L_check
set_option maxRecDepth 20000 in
theorem ggL_law_X11_streamAt : GoodIn wsL_law wsX11_streamAt := goodIn_ca (goodIn_ca (goodIn_r _ [758, 46, 723, 724, 725, 13, 726, 179, 180, 604, 605, 606, 422, 423, 184, 185, 186, 68, 187, 188, 564, 257, 258, 259, 80, 773, 774, 775, 776, 777, 796, 797, 798, 799, 800, 801, 802, 803, 804, 805] (by decide +kernel) (by decide +kernel)) (goodIn_sub (fun _ h => List.mem_append_left _ (List.mem_append_right _ h)) (by decide +kernel))) (goodIn_sub (fun _ h => List.mem_append_right _ h) (by decide +kernel))
set_option maxRecDepth 20000 in
theorem gL_law_X11_streamAt : GoodIn wsL_law (wsV RL 133 RX11 yX11_streamAt wsX11_streamAt) := goodIn_app (goodIn_of _ (by decide +kernel)) ggL_law_X11_streamAt
set_option maxRecDepth 20000 in
theorem ggL_law_X11_keyFound : GoodIn wsL_law wsX11_keyFound := goodIn_ca (goodIn_ca (goodIn_r _ [762, 735, 736, 737, 13, 738, 422, 423, 46, 723, 724, 725, 726, 179, 180, 577, 578, 579, 45, 580, 581, 125, 814, 815, 816, 817, 818, 773, 774, 775, 776, 777, 796, 797, 798, 799, 800, 801, 802, 803] (by decide +kernel) (by decide +kernel)) (goodIn_sub (fun _ h => List.mem_append_right _ h) (by decide +kernel))) (goodIn_sub (fun _ h => List.mem_append_left _ (List.mem_append_right _ h)) (by decide +kernel))
set_option maxRecDepth 20000 in
theorem gL_law_X11_keyFound : GoodIn wsL_law (wsV RL 136 RX11 yX11_keyFound wsX11_keyFound) := goodIn_app (goodIn_of _ (by decide +kernel)) ggL_law_X11_keyFound
