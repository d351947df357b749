theorem ggL_law_X11_open : GoodIn wsL_law wsX11_open := goodIn_td 105 ggL_law_X11_open_1 (goodIn_td 105 ggL_law_X11_open_2 ggL_law_X11_open_3)
set_option maxRecDepth 20000 in
theorem gL_law_X11_open : GoodIn wsL_law (wsV RL 244 RX11 yX11_open wsX11_open) := goodIn_app (goodIn_of _ (by decide +kernel)) ggL_law_X11_open
set_option maxRecDepth 20000 in
theorem ggL_law_X12_open_1 : GoodIn wsL_law (wsX12_open.take 72) := goodIn_r _ [1090, 174, 668, 136, 913, 135, 40, 413, 414, 415, 416, 977, 978, 138, 914, 915, 916, 5, 917, 918, 146, 147, 882, 883, 884, 885, 137, 175, 176, 177, 886, 887, 888, 683, 684, 685, 686, 687, 688, 503, 504, 505, 289, 506, 507, 508, 509, 510, 958, 959, 960, 961, 1091, 1092, 1093, 1094, 1095, 1096, 1097, 1098, 133, 241, 242, 243, 204, 205, 206, 178, 179, 180, 1099, 1100] (by decide +kernel) (by decide +kernel)
