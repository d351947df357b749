theorem ggL_law_X11_open : GoodIn wsL_law wsX11_open := goodIn_td 105 ggL_law_X11_open_1 (goodIn_td 105 ggL_law_X11_open_2 ggL_law_X11_open_3)
set_option maxRecDepth 20000 in
theorem gL_law_X11_open : GoodIn wsL_law (wsV RL 244 RX11 yX11_open wsX11_open) := goodIn_app (goodIn_of _ (by decide +kernel)) ggL_law_X11_open
set_option maxRecDepth 20000 in
theorem ggL_law_X12_open : GoodIn wsL_law wsX12_open := goodIn_r _ [1090, 174, 668, 136, 913, 135, 40, 413, 414, 415, 416, 977, 978, 138, 914, 915, 916, 5, 917, 918, 146, 147, 882, 883, 884, 885, 137, 175, 176, 177, 886, 887, 888, 683, 684, 685, 686, 687, 688, 503, 504, 505, 289, 506, 507, 508, 509, 510, 958, 959, 960, 961, 1091, 1092, 1093, 1094, 1095, 1096, 1097, 1098, 133, 241, 242, 243, 204, 205, 206, 178, 179, 180, 1099, 1100, 1101, 1102, 1103, 1104, 1105, 1106, 1107, 1108, 1109, 1110, 1111, 1112, 1113, 1114, 1115, 1116, 1117, 1118, 1119, 1120, 1121, 139, 140, 141, 142, 1122, 1123, 1124, 1125, 144, 1126, 1127, 1128, 1129, 1130, 1131, 1132, 1133, 1309, 1310, 1311, 1312, 1313, 1314, 1315, 1316, 1317, 1318, 1319, 1320, 1321, 1322, 1323, 1324, 1325, 1326, 1327, 1328, 1329, 1330, 1331, 1332, 1333] (by decide +kernel) (by decide +kernel)
set_option maxRecDepth 20000 in
theorem gL_law_X12_open : GoodIn wsL_law (wsV RL 247 RX12 yX12_open wsX12_open) := goodIn_app (goodIn_of _ (by decide +kernel)) ggL_law_X12_open
