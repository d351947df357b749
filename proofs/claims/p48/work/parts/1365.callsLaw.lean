set_option maxRecDepth 20000 in
theorem ggL_law_X11_found : GoodIn wsL_law wsX11_found := goodIn_ca (goodIn_r _ [730, 46, 723, 724, 725, 13, 726, 179, 180, 773, 774, 775, 776, 777, 796, 797, 798, 799, 800, 801, 802, 803] (by decide +kernel) (by decide +kernel)) (goodIn_sub (fun _ h => List.mem_append_left _ (List.mem_append_right _ h)) (by decide +kernel))
set_option maxRecDepth 20000 in
theorem gL_law_X11_found : GoodIn wsL_law (wsV RL 118 RX11 yX11_found wsX11_found) := goodIn_app (goodIn_of _ (by decide +kernel)) ggL_law_X11_found
set_option maxRecDepth 20000 in
theorem ggL_law_X11_isGood : GoodIn wsL_law wsX11_isGood := goodIn_ca (goodIn_ca (goodIn_r _ [734, 735, 736, 737, 13, 738, 422, 423, 46, 723, 724, 725, 726, 179, 180, 577, 578, 579, 45, 580, 581, 125, 814, 815, 816, 817, 818, 773, 774, 775, 776, 777, 796, 797, 798, 799, 800, 801, 802, 803] (by decide +kernel) (by decide +kernel)) (goodIn_sub (fun _ h => List.mem_append_right _ h) (by decide +kernel))) (goodIn_sub (fun _ h => List.mem_append_left _ (List.mem_append_right _ h)) (by decide +kernel))
set_option maxRecDepth 20000 in
theorem gL_law_X11_isGood : GoodIn wsL_law (wsV RL 121 RX11 yX11_isGood wsX11_isGood) := goodIn_app (goodIn_of _ (by decide +kernel)) ggL_law_X11_isGood
set_option maxRecDepth 20000 in
theorem ggL_law_X11_lengthFound : GoodIn wsL_law wsX11_lengthFound := goodIn_ca (goodIn_ca (goodIn_r _ [742, 735, 736, 737, 13, 738, 422, 423, 46, 723, 724, 725, 726, 179, 180, 577, 578, 579, 45, 580, 581, 125, 582, 583, 584, 128, 585, 586, 134, 587, 185, 186, 68, 187, 188, 773, 774, 775, 776, 777, 796, 797, 798, 799, 800, 801, 802, 803, 814, 815, 816, 817, 818, 804, 805] (by decide +kernel) (by decide +kernel)) (goodIn_sub (fun _ h => List.mem_append_right _ h) (by decide +kernel))) (goodIn_sub (fun _ h => List.mem_append_left _ (List.mem_append_right _ h)) (by decide +kernel))
set_option maxRecDepth 20000 in
theorem gL_law_X11_lengthFound : GoodIn wsL_law (wsV RL 124 RX11 yX11_lengthFound wsX11_lengthFound) := goodIn_app (goodIn_of _ (by decide +kernel)) ggL_law_X11_lengthFound
set_option maxRecDepth 20000 in
theorem ggL_law_X11_byteFound : GoodIn wsL_law wsX11_byteFound := goodIn_ca (goodIn_ca (goodIn_r _ [746, 422, 423, 735, 736, 737, 13, 738, 46, 723, 724, 725, 726, 179, 180, 577, 578, 579, 45, 580, 581, 125, 604, 605, 606, 184, 185, 186, 68, 187, 188, 564, 257, 258, 259, 80, 814, 815, 816, 817, 818, 773, 774, 775, 776, 777, 796, 797, 798, 799, 800, 801, 802, 803, 804, 805] (by decide +kernel) (by decide +kernel)) (goodIn_sub (fun _ h => List.mem_append_right _ h) (by decide +kernel))) (goodIn_sub (fun _ h => List.mem_append_left _ (List.mem_append_right _ h)) (by decide +kernel))
set_option maxRecDepth 20000 in
theorem gL_law_X11_byteFound : GoodIn wsL_law (wsV RL 127 RX11 yX11_byteFound wsX11_byteFound) := goodIn_app (goodIn_of _ (by decide +kernel)) ggL_law_X11_byteFound
