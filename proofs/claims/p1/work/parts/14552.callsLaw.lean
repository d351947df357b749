set_option maxRecDepth 20000 in
theorem ggL_law_L_restore : GoodIn wsL_law wsL_restore := goodIn_ca (goodIn_r _ [1250, 247, 1251, 1252, 1253, 2, 1254, 35, 23, 969, 970, 971, 972, 252, 253, 1189, 1054, 1055, 34, 1056, 1035, 115, 313, 314, 315, 22, 316, 317, 62, 318, 319, 320, 321, 322, 323, 324, 325, 326, 327, 328, 329, 330, 331, 332, 333, 63, 334, 335, 336, 337, 338, 339, 340, 341, 65, 342, 343, 75, 344, 76, 345, 346, 347, 58, 348, 349, 350, 351, 352, 258, 353, 255, 256, 257, 354, 355, 356, 357, 358, 359, 360, 361, 70, 263, 264, 265, 266, 362, 363, 364, 365, 15, 366, 367, 368, 369, 370, 371, 41, 372, 373, 374, 375, 376, 377, 378, 379, 380, 381, 382, 383, 384, 385, 386, 387, 388, 389, 390, 391, 392, 393, 394, 1304, 1305, 1306, 1307, 1308, 1352, 1353, 1354, 1355, 1356, 1357, 1358, 1359, 1370, 1371, 1372, 1373, 1374, 1337, 1338, 1339, 1340, 1341, 1362, 1363, 1364, 1365, 1360, 1361, 1334] (by decide +kernel) (by decide +kernel)) (goodIn_sub (fun _ h => List.mem_append_right _ h) (by decide +kernel))
set_option maxRecDepth 20000 in
theorem gL_law_L_restore : GoodIn wsL_law (va_wsS RL 275 yL_restore wsL_restore) := goodIn_app (goodIn_of _ (by decide +kernel)) ggL_law_L_restore
set_option maxRecDepth 20000 in
theorem ggL_law_X12_restore : GoodIn wsL_law wsX12_restore := goodIn_r _ [1258, 174, 668, 1113, 142, 404, 139, 144, 181, 182, 183, 5, 184, 405, 406, 407, 408, 131, 1122, 1123, 1124, 1125, 140, 138, 141, 1126, 1127, 1128, 1129, 886, 887, 888, 1130, 1131, 1132, 1133, 503, 504, 505, 289, 506, 507, 508, 509, 510, 409, 410, 411, 412, 132, 134, 413, 414, 415, 416, 417, 418, 419, 420, 1309, 1310, 1311, 1312, 1313, 1314, 1315, 1316, 1317, 1318, 1319, 1320, 1321, 1322, 1323, 1324, 1325, 1326, 1327, 1328, 1329, 1330, 1331, 1332, 1333] (by decide +kernel) (by decide +kernel)
set_option maxRecDepth 20000 in
theorem gL_law_X12_restore : GoodIn wsL_law (wsV RL 277 RX12 yX12_restore wsX12_restore) := goodIn_app (goodIn_of _ (by decide +kernel)) ggL_law_X12_restore
set_option maxRecDepth 20000 in
theorem ggL_law_X11_cost : GoodIn wsL_law wsX11_cost := goodIn_r _ [1262, 23, 27, 1263, 1264, 1265, 22, 1266, 317, 326, 327, 328, 329, 62, 429, 255, 256, 58, 257, 258, 1267, 1268, 1269, 26, 1270, 83, 950, 951, 388, 952, 1271, 709, 710, 88, 711, 612, 95, 645, 1304, 1305, 1306, 1307, 1308, 1337, 1338, 1339, 1340, 1341, 1362, 1363, 1364, 1365, 1360, 1361, 1342, 1343, 1344, 1345, 1346, 1347, 1348, 1366, 1367, 1368, 1369] (by decide +kernel) (by decide +kernel)
set_option maxRecDepth 20000 in
theorem gL_law_X11_cost : GoodIn wsL_law (wsV RL 278 RX11 yX11_cost wsX11_cost) := goodIn_app (goodIn_of _ (by decide +kernel)) ggL_law_X11_cost
set_option maxRecDepth 20000 in
theorem ggL_law_X12_cost : GoodIn wsL_law wsX12_cost := goodIn_r _ [1275, 174, 137, 1276, 951, 388, 952, 404, 132, 1309, 1310, 1311, 1312, 1313, 1314, 1315, 1316, 1317, 1318, 1319, 1320, 1321, 1322, 1323, 1324, 1325, 1326, 1327, 1328, 1329, 1330, 1331, 1332, 1333] (by decide +kernel) (by decide +kernel)
set_option maxRecDepth 20000 in
theorem gL_law_X12_cost : GoodIn wsL_law (wsV RL 282 RX12 yX12_cost wsX12_cost) := goodIn_app (goodIn_of _ (by decide +kernel)) ggL_law_X12_cost
