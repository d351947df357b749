set_option maxRecDepth 20000 in
theorem ggL_law_L_keyFound : GoodIn wsL_law wsL_keyFound := goodIn_ca (goodIn_ca (goodIn_r _ [1180, 247, 225, 1181, 1182, 1183, 2, 1184, 1185, 1186, 1187, 1188, 230, 231, 35, 969, 970, 971, 972, 252, 253, 1189, 1054, 1055, 34, 1056, 1035, 115, 1370, 1371, 1372, 1373, 1374, 1304, 1305, 1306, 1307, 1308, 1352, 1353, 1354, 1355, 1356, 1357, 1358, 1359] (by decide +kernel) (by decide +kernel)) (goodIn_sub (fun _ h => List.mem_append_left _ (List.mem_append_right _ h)) (by decide +kernel))) (goodIn_sub (fun _ h => List.mem_append_right _ h) (by decide +kernel))
set_option maxRecDepth 20000 in
theorem gL_law_L_keyFound : GoodIn wsL_law (va_wsS RL 260 yL_keyFound wsL_keyFound) := goodIn_app (goodIn_of _ (by decide +kernel)) ggL_law_L_keyFound
set_option maxRecDepth 20000 in
theorem ggL_law_X12_keyFound : GoodIn wsL_law wsX12_keyFound := goodIn_r _ [1193, 139, 1194, 1195, 1196, 5, 1197, 174, 668, 1113, 181, 182, 183, 184, 175, 176, 177, 1309, 1310, 1311, 1312, 1313, 1314, 1315, 1316, 1317, 1318, 1319, 1320, 1321, 1322, 1323, 1324, 1325, 1326, 1327, 1328, 1329, 1330, 1331, 1332, 1333] (by decide +kernel) (by decide +kernel)
set_option maxRecDepth 20000 in
theorem gL_law_X12_keyFound : GoodIn wsL_law (wsV RL 262 RX12 yX12_keyFound wsX12_keyFound) := goodIn_app (goodIn_of _ (by decide +kernel)) ggL_law_X12_keyFound
set_option maxRecDepth 20000 in
theorem ggL_law_L_placeFound : GoodIn wsL_law wsL_placeFound := goodIn_ca (goodIn_ca (goodIn_r _ [1200, 247, 225, 1201, 1202, 1203, 2, 1204, 1185, 1186, 1187, 1188, 230, 231, 35, 969, 970, 971, 972, 252, 253, 1189, 1054, 1055, 34, 1056, 1035, 115, 1370, 1371, 1372, 1373, 1374, 1304, 1305, 1306, 1307, 1308, 1352, 1353, 1354, 1355, 1356, 1357, 1358, 1359] (by decide +kernel) (by decide +kernel)) (goodIn_sub (fun _ h => List.mem_append_left _ (List.mem_append_right _ h)) (by decide +kernel))) (goodIn_sub (fun _ h => List.mem_append_right _ h) (by decide +kernel))
set_option maxRecDepth 20000 in
theorem gL_law_L_placeFound : GoodIn wsL_law (va_wsS RL 263 yL_placeFound wsL_placeFound) := goodIn_app (goodIn_of _ (by decide +kernel)) ggL_law_L_placeFound
set_option maxRecDepth 20000 in
theorem ggL_law_X12_placeFound : GoodIn wsL_law wsX12_placeFound := goodIn_r _ [1208, 140, 1194, 1195, 1196, 5, 1197, 174, 668, 1113, 181, 182, 183, 184, 175, 176, 177, 1309, 1310, 1311, 1312, 1313, 1314, 1315, 1316, 1317, 1318, 1319, 1320, 1321, 1322, 1323, 1324, 1325, 1326, 1327, 1328, 1329, 1330, 1331, 1332, 1333] (by decide +kernel) (by decide +kernel)
set_option maxRecDepth 20000 in
theorem gL_law_X12_placeFound : GoodIn wsL_law (wsV RL 265 RX12 yX12_placeFound wsX12_placeFound) := goodIn_app (goodIn_of _ (by decide +kernel)) ggL_law_X12_placeFound
set_option maxRecDepth 20000 in
theorem ggL_law_L_isGood : GoodIn wsL_law wsL_isGood := goodIn_ca (goodIn_ca (goodIn_r _ [1211, 247, 225, 1212, 1213, 1214, 2, 1215, 1185, 1186, 1187, 1188, 230, 231, 35, 969, 970, 971, 972, 252, 253, 1189, 1054, 1055, 34, 1056, 1035, 115, 1370, 1371, 1372, 1373, 1374, 1304, 1305, 1306, 1307, 1308, 1352, 1353, 1354, 1355, 1356, 1357, 1358, 1359] (by decide +kernel) (by decide +kernel)) (goodIn_sub (fun _ h => List.mem_append_left _ (List.mem_append_right _ h)) (by decide +kernel))) (goodIn_sub (fun _ h => List.mem_append_right _ h) (by decide +kernel))
set_option maxRecDepth 20000 in
theorem gL_law_L_isGood : GoodIn wsL_law (va_wsS RL 266 yL_isGood wsL_isGood) := goodIn_app (goodIn_of _ (by decide +kernel)) ggL_law_L_isGood
set_option maxRecDepth 20000 in
theorem ggL_law_X12_isGood : GoodIn wsL_law wsX12_isGood := goodIn_r _ [1219, 142, 174, 1194, 1195, 1196, 5, 1197, 668, 1113, 181, 182, 183, 184, 175, 176, 177, 1309, 1310, 1311, 1312, 1313, 1314, 1315, 1316, 1317, 1318, 1319, 1320, 1321, 1322, 1323, 1324, 1325, 1326, 1327, 1328, 1329, 1330, 1331, 1332, 1333] (by decide +kernel) (by decide +kernel)
set_option maxRecDepth 20000 in
theorem gL_law_X12_isGood : GoodIn wsL_law (wsV RL 268 RX12 yX12_isGood wsX12_isGood) := goodIn_app (goodIn_of _ (by decide +kernel)) ggL_law_X12_isGood
set_option maxRecDepth 20000 in
theorem ggL_law_L_lengthFound : GoodIn wsL_law wsL_lengthFound := goodIn_ca (goodIn_ca (goodIn_r _ [1222, 247, 225, 1223, 1224, 1225, 2, 1226, 1185, 1186, 1187, 1188, 230, 231, 35, 969, 970, 971, 972, 252, 253, 1189, 1054, 1055, 34, 1056, 1035, 115, 1227, 1228, 1229, 118, 1230, 1231, 124, 1232, 255, 256, 58, 257, 258, 1304, 1305, 1306, 1307, 1308, 1352, 1353, 1354, 1355, 1356, 1357, 1358, 1359, 1370, 1371, 1372, 1373, 1374, 1360, 1361] (by decide +kernel) (by decide +kernel)) (goodIn_sub (fun _ h => List.mem_append_left _ (List.mem_append_right _ h)) (by decide +kernel))) (goodIn_sub (fun _ h => List.mem_append_right _ h) (by decide +kernel))
set_option maxRecDepth 20000 in
theorem gL_law_L_lengthFound : GoodIn wsL_law (va_wsS RL 269 yL_lengthFound wsL_lengthFound) := goodIn_app (goodIn_of _ (by decide +kernel)) ggL_law_L_lengthFound
set_option maxRecDepth 20000 in
theorem ggL_law_X12_lengthFound : GoodIn wsL_law wsX12_lengthFound := goodIn_r _ [1236, 142, 1194, 1195, 1196, 5, 1197, 174, 668, 1113, 181, 182, 183, 184, 175, 176, 177, 1309, 1310, 1311, 1312, 1313, 1314, 1315, 1316, 1317, 1318, 1319, 1320, 1321, 1322, 1323, 1324, 1325, 1326, 1327, 1328, 1329, 1330, 1331, 1332, 1333] (by decide +kernel) (by decide +kernel)
set_option maxRecDepth 20000 in
theorem gL_law_X12_lengthFound : GoodIn wsL_law (wsV RL 271 RX12 yX12_lengthFound wsX12_lengthFound) := goodIn_app (goodIn_of _ (by decide +kernel)) ggL_law_X12_lengthFound
set_option maxRecDepth 20000 in
theorem ggL_law_L_byteFound : GoodIn wsL_law wsL_byteFound := goodIn_ca (goodIn_ca (goodIn_r _ [1239, 247, 225, 1240, 1241, 1242, 2, 1243, 230, 231, 1185, 1186, 1187, 1188, 35, 969, 970, 971, 972, 252, 253, 1189, 1054, 1055, 34, 1056, 1035, 115, 484, 485, 486, 254, 255, 256, 58, 257, 258, 487, 359, 360, 361, 70, 1370, 1371, 1372, 1373, 1374, 1304, 1305, 1306, 1307, 1308, 1352, 1353, 1354, 1355, 1356, 1357, 1358, 1359, 1360, 1361] (by decide +kernel) (by decide +kernel)) (goodIn_sub (fun _ h => List.mem_append_left _ (List.mem_append_right _ h)) (by decide +kernel))) (goodIn_sub (fun _ h => List.mem_append_right _ h) (by decide +kernel))
set_option maxRecDepth 20000 in
theorem gL_law_L_byteFound : GoodIn wsL_law (va_wsS RL 272 yL_byteFound wsL_byteFound) := goodIn_app (goodIn_of _ (by decide +kernel)) ggL_law_L_byteFound
set_option maxRecDepth 20000 in
theorem ggL_law_X12_byteFound : GoodIn wsL_law wsX12_byteFound := goodIn_r _ [1247, 142, 174, 144, 1194, 1195, 1196, 5, 1197, 668, 1113, 181, 182, 183, 184, 175, 176, 177, 1122, 1123, 1124, 1125, 140, 138, 139, 141, 1126, 1127, 1128, 1129, 886, 887, 888, 1130, 1131, 1132, 1133, 503, 504, 505, 289, 506, 507, 508, 509, 510, 1309, 1310, 1311, 1312, 1313, 1314, 1315, 1316, 1317, 1318, 1319, 1320, 1321, 1322, 1323, 1324, 1325, 1326, 1327, 1328, 1329, 1330, 1331, 1332, 1333] (by decide +kernel) (by decide +kernel)
set_option maxRecDepth 20000 in
theorem gL_law_X12_byteFound : GoodIn wsL_law (wsV RL 274 RX12 yX12_byteFound wsX12_byteFound) := goodIn_app (goodIn_of _ (by decide +kernel)) ggL_law_X12_byteFound
set_option maxRecDepth 20000 in
theorem ggL_law_L_restore : GoodIn wsL_law wsL_restore := goodIn_ca (goodIn_r _ [1250, 247, 1251, 1252, 1253, 2, 1254, 35, 23, 969, 970, 971, 972, 252, 253, 1189, 1054, 1055, 34, 1056, 1035, 115, 313, 314, 315, 22, 316, 317, 62, 318, 319, 320, 321, 322, 323, 324, 325, 326, 327, 328, 329, 330, 331, 332, 333, 63, 334, 335, 336, 337, 338, 339, 340, 341, 65, 342, 343, 75, 344, 76, 345, 346, 347, 58, 348, 349, 350, 351, 352, 258, 353, 255, 256, 257, 354, 355, 356, 357, 358, 359, 360, 361, 70, 263, 264, 265, 266, 362, 363, 364, 365, 15, 366, 367, 368, 369, 370, 371, 41, 372, 373, 374, 375, 376, 377, 378, 379, 380, 381, 382, 383, 384, 385, 386, 387, 388, 389, 390, 391, 392, 393, 394, 1304, 1305, 1306, 1307, 1308, 1352, 1353, 1354, 1355, 1356, 1357, 1358, 1359, 1370, 1371, 1372, 1373, 1374, 1337, 1338, 1339, 1340, 1341, 1362, 1363, 1364, 1365, 1360, 1361, 1334] (by decide +kernel) (by decide +kernel)) (goodIn_sub (fun _ h => List.mem_append_right _ h) (by decide +kernel))
set_option maxRecDepth 20000 in
theorem gL_law_L_restore : GoodIn wsL_law (va_wsS RL 275 yL_restore wsL_restore) := goodIn_app (goodIn_of _ (by decide +kernel)) ggL_law_L_restore
set_option maxRecDepth 20000 in
theorem ggL_law_X12_restore : GoodIn wsL_law wsX12_restore := goodIn_r _ [1258, 174, 668, 1113, 142, 404, 139, 144, 181, 182, 183, 5, 184, 405, 406, 407, 408, 131, 1122, 1123, 1124, 1125, 140, 138, 141, 1126, 1127, 1128, 1129, 886, 887, 888, 1130, 1131, 1132, 1133, 503, 504, 505, 289, 506, 507, 508, 509, 510, 409, 410, 411, 412, 132, 134, 413, 414, 415, 416, 417, 418, 419, 420, 1309, 1310, 1311, 1312, 1313, 1314, 1315, 1316, 1317, 1318, 1319, 1320, 1321, 1322, 1323, 1324, 1325, 1326, 1327, 1328, 1329, 1330, 1331, 1332, 1333] (by decide +kernel) (by decide +kernel)
set_option maxRecDepth 20000 in
theorem gL_law_X12_restore : GoodIn wsL_law (wsV RL 277 RX12 yX12_restore wsX12_restore) := goodIn_app (goodIn_of _ (by decide +kernel)) ggL_law_X12_restore
set_option maxRecDepth 20000 in
theorem ggL_law_X11_cost : GoodIn wsL_law wsX11_cost := goodIn_r _ [1262, 23, 27, 1263, 1264, 1265, 22, 1266, 317, 326, 327, 328, 329, 62, 429, 255, 256, 58, 257, 258, 1267, 1268, 1269, 26, 1270, 83, 950, 951, 388, 952, 1271, 709, 710, 88, 711, 612, 95, 645, 1304, 1305, 1306, 1307, 1308, 1337, 1338, 1339, 1340, 1341, 1362, 1363, 1364, 1365, 1360, 1361, 1342, 1343, 1344, 1345, 1346, 1347, 1348, 1366, 1367, 1368, 1369] (by decide +kernel) (by decide +kernel)
set_option maxRecDepth 20000 in
theorem gL_law_X11_cost : GoodIn wsL_law (wsV RL 278 RX11 yX11_cost wsX11_cost) := goodIn_app (goodIn_of _ (by decide +kernel)) ggL_law_X11_cost
set_option maxRecDepth 20000 in
theorem ggL_law_X12_cost : GoodIn wsL_law wsX12_cost := goodIn_r _ [1275, 174, 137, 1276, 951, 388, 952, 404, 132, 1309, 1310, 1311, 1312, 1313, 1314, 1315, 1316, 1317, 1318, 1319, 1320, 1321, 1322, 1323, 1324, 1325, 1326, 1327, 1328, 1329, 1330, 1331, 1332, 1333] (by decide +kernel) (by decide +kernel)
set_option maxRecDepth 20000 in
theorem gL_law_X12_cost : GoodIn wsL_law (wsV RL 282 RX12 yX12_cost wsX12_cost) := goodIn_app (goodIn_of _ (by decide +kernel)) ggL_law_X12_cost
set_option maxRecDepth 20000 in
theorem ggL_law_X11_digest : GoodIn wsL_law wsX11_digest := goodIn_r _ [1280, 27, 1281, 893, 894, 895, 26, 896, 897, 898, 84, 85, 83, 899, 847, 848, 88, 849, 613, 95, 850, 851, 852, 853, 612, 645, 255, 256, 58, 257, 258, 757, 359, 360, 361, 70, 854, 855, 856, 857, 858, 859, 860, 861, 862, 863, 864, 865, 866, 867, 868, 869, 870, 871, 872, 873, 358, 874, 875, 876, 877, 614, 2, 615, 639, 640, 641, 642, 96, 643, 644, 369, 370, 15, 371, 367, 41, 372, 900, 901, 902, 903, 818, 705, 706, 707, 904, 905, 906, 907, 908, 1282, 1283, 1284, 1285, 23, 396, 397, 398, 22, 399, 317, 1286, 1287, 1288, 1289, 544, 545, 546, 547, 326, 327, 328, 329, 62, 548, 549, 550, 65, 551, 76, 75, 552, 553, 554, 555, 362, 457, 254, 1290, 1291, 1292, 1293, 704, 708, 709, 710, 711, 846, 934, 935, 936, 937, 487, 946, 947, 948, 949, 950, 951, 388, 952, 953, 1294, 1295, 1296, 1297, 35, 1189, 1054, 1055, 34, 1056, 1035, 115, 1227, 1228, 1229, 118, 1230, 1231, 124, 1232, 1304, 1305, 1306, 1307, 1308, 1342, 1343, 1344, 1345, 1346, 1347, 1348, 1366, 1367, 1368, 1369, 1360, 1361, 1334, 1362, 1363, 1364, 1365, 1337, 1338, 1339, 1340, 1341, 1352, 1353, 1354, 1355, 1356, 1357, 1358, 1359, 1370, 1371, 1372, 1373, 1374] (by decide +kernel) (by decide +kernel)
set_option maxRecDepth 20000 in
theorem gL_law_X11_digest : GoodIn wsL_law (wsV RL 283 RX11 yX11_digest wsX11_digest) := goodIn_app (goodIn_of _ (by decide +kernel)) ggL_law_X11_digest
set_option maxRecDepth 20000 in
theorem ggL_law_X12_digest : GoodIn wsL_law wsX12_digest := goodIn_r _ [1301, 174, 1302, 404, 1303, 131, 132, 134, 137, 146, 147, 136, 913, 918, 668, 138, 1112, 1113, 139, 140, 142, 560, 561, 562, 5, 563, 564, 387, 388, 389, 522, 523, 524, 525, 143, 526, 527, 528, 503, 504, 505, 289, 506, 507, 508, 509, 510, 914, 915, 916, 917, 882, 883, 884, 885, 175, 176, 177, 886, 887, 888, 683, 684, 685, 686, 687, 688, 958, 959, 960, 961, 1309, 1310, 1311, 1312, 1313, 1314, 1315, 1316, 1317, 1318, 1319, 1320, 1321, 1322, 1323, 1324, 1325, 1326, 1327, 1328, 1329, 1330, 1331, 1332, 1333] (by decide +kernel) (by decide +kernel)
set_option maxRecDepth 20000 in
theorem gL_law_X12_digest : GoodIn wsL_law (wsV RL 287 RX12 yX12_digest wsX12_digest) := goodIn_app (goodIn_of _ (by decide +kernel)) ggL_law_X12_digest
