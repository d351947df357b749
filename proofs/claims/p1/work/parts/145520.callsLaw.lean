set_option maxRecDepth 20000 in
theorem ggL_law_X12_restore : GoodIn wsL_law wsX12_restore := goodIn_r _ [1258, 174, 668, 1113, 142, 404, 139, 144, 181, 182, 183, 5, 184, 405, 406, 407, 408, 131, 1122, 1123, 1124, 1125, 140, 138, 141, 1126, 1127, 1128, 1129, 886, 887, 888, 1130, 1131, 1132, 1133, 503, 504, 505, 289, 506, 507, 508, 509, 510, 409, 410, 411, 412, 132, 134, 413, 414, 415, 416, 417, 418, 419, 420, 1309, 1310, 1311, 1312, 1313, 1314, 1315, 1316, 1317, 1318, 1319, 1320, 1321, 1322, 1323, 1324, 1325, 1326, 1327, 1328, 1329, 1330, 1331, 1332, 1333] (by decide +kernel) (by decide +kernel)
set_option maxRecDepth 20000 in
theorem gL_law_X12_restore : GoodIn wsL_law (wsV RL 277 RX12 yX12_restore wsX12_restore) := goodIn_app (goodIn_of _ (by decide +kernel)) ggL_law_X12_restore
set_option maxRecDepth 20000 in
theorem ggL_law_X11_cost : GoodIn wsL_law wsX11_cost := goodIn_r _ [1262, 23, 27, 1263, 1264, 1265, 22, 1266, 317, 326, 327, 328, 329, 62, 429, 255, 256, 58, 257, 258, 1267, 1268, 1269, 26, 1270, 83, 950, 951, 388, 952, 1271, 709, 710, 88, 711, 612, 95, 645, 1304, 1305, 1306, 1307, 1308, 1337, 1338, 1339, 1340, 1341, 1362, 1363, 1364, 1365, 1360, 1361, 1342, 1343, 1344, 1345, 1346, 1347, 1348, 1366, 1367, 1368, 1369] (by decide +kernel) (by decide +kernel)
set_option maxRecDepth 20000 in
theorem gL_law_X11_cost : GoodIn wsL_law (wsV RL 278 RX11 yX11_cost wsX11_cost) := goodIn_app (goodIn_of _ (by decide +kernel)) ggL_law_X11_cost
set_option maxRecDepth 20000 in
theorem ggL_law_X12_cost : GoodIn wsL_law wsX12_cost := goodIn_r _ [1275, 174, 137, 1276, 951, 388, 952, 404, 132, 1309, 1310, 1311, 1312, 1313, 1314, 1315, 1316, 1317, 1318, 1319, 1320, 1321, 1322, 1323, 1324, 1325, 1326, 1327, 1328, 1329, 1330, 1331, 1332, 1333] (by decide +kernel) (by decide +kernel)
set_option maxRecDepth 20000 in
theorem gL_law_X12_cost : GoodIn wsL_law (wsV RL 282 RX12 yX12_cost wsX12_cost) := goodIn_app (goodIn_of _ (by decide +kernel)) ggL_law_X12_cost
