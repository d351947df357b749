theorem ggL_law_X11_digest : GoodIn wsL_law wsX11_digest := goodIn_td 86 ggL_law_X11_digest_1 (goodIn_td 73 ggL_law_X11_digest_2 (goodIn_td 45 ggL_law_X11_digest_3 ggL_law_X11_digest_4))
set_option maxRecDepth 20000 in
theorem gL_law_X11_digest : GoodIn wsL_law (wsV RL 283 RX11 yX11_digest wsX11_digest) := goodIn_app (goodIn_of _ (by decide +kernel)) ggL_law_X11_digest
set_option maxRecDepth 20000 in
theorem ggL_law_X12_digest_1 : GoodIn wsL_law (wsX12_digest.take 77) := goodIn_r _ [1301, 174, 1302, 404, 1303, 131, 132, 134, 137, 146, 147, 136, 913, 918, 668, 138, 1112, 1113, 139, 140, 142, 560, 561, 562, 5, 563, 564, 387, 388, 389, 522, 523, 524, 525, 143, 526, 527, 528, 503, 504, 505, 289, 506, 507, 508, 509, 510, 914, 915, 916, 917, 882, 883, 884, 885, 175, 176, 177, 886, 887, 888, 683, 684, 685, 686, 687, 688, 958, 959, 960, 961, 1309, 1310, 1311, 1312, 1313, 1314] (by decide +kernel) (by decide +kernel)
