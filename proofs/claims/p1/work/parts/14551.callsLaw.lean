set_option maxRecDepth 20000 in
theorem ggL_law_X12_isGood : GoodIn wsL_law wsX12_isGood := goodIn_r _ [1219, 142, 174, 1194, 1195, 1196, 5, 1197, 668, 1113, 181, 182, 183, 184, 175, 176, 177, 1309, 1310, 1311, 1312, 1313, 1314, 1315, 1316, 1317, 1318, 1319, 1320, 1321, 1322, 1323, 1324, 1325, 1326, 1327, 1328, 1329, 1330, 1331, 1332, 1333] (by decide +kernel) (by decide +kernel)
set_option maxRecDepth 20000 in
theorem gL_law_X12_isGood : GoodIn wsL_law (wsV RL 268 RX12 yX12_isGood wsX12_isGood) := goodIn_app (goodIn_of _ (by decide +kernel)) ggL_law_X12_isGood
set_option maxRecDepth 20000 in
theorem ggL_law_L_lengthFound : GoodIn wsL_law wsL_lengthFound := goodIn_ca (goodIn_ca (goodIn_r _ [1222, 247, 225, 1223, 1224, 1225, 2, 1226, 1185, 1186, 1187, 1188, 230, 231, 35, 969, 970, 971, 972, 252, 253, 1189, 1054, 1055, 34, 1056, 1035, 115, 1227, 1228, 1229, 118, 1230, 1231, 124, 1232, 255, 256, 58, 257, 258, 1304, 1305, 1306, 1307, 1308, 1352, 1353, 1354, 1355, 1356, 1357, 1358, 1359, 1370, 1371, 1372, 1373, 1374, 1360, 1361] (by decide +kernel) (by decide +kernel)) (goodIn_sub (fun _ h => List.mem_append_left _ (List.mem_append_right _ h)) (by decide +kernel))) (goodIn_sub (fun _ h => List.mem_append_right _ h) (by decide +kernel))
set_option maxRecDepth 20000 in
theorem gL_law_L_lengthFound : GoodIn wsL_law (va_wsS RL 269 yL_lengthFound wsL_lengthFound) := goodIn_app (goodIn_of _ (by decide +kernel)) ggL_law_L_lengthFound
set_option maxRecDepth 20000 in
theorem ggL_law_X12_lengthFound : GoodIn wsL_law wsX12_lengthFound := goodIn_r _ [1236, 142, 1194, 1195, 1196, 5, 1197, 174, 668, 1113, 181, 182, 183, 184, 175, 176, 177, 1309, 1310, 1311, 1312, 1313, 1314, 1315, 1316, 1317, 1318, 1319, 1320, 1321, 1322, 1323, 1324, 1325, 1326, 1327, 1328, 1329, 1330, 1331, 1332, 1333] (by decide +kernel) (by decide +kernel)
set_option maxRecDepth 20000 in
theorem gL_law_X12_lengthFound : GoodIn wsL_law (wsV RL 271 RX12 yX12_lengthFound wsX12_lengthFound) := goodIn_app (goodIn_of _ (by decide +kernel)) ggL_law_X12_lengthFound
set_option maxRecDepth 20000 in
theorem ggL_law_L_byteFound : GoodIn wsL_law wsL_byteFound := goodIn_ca (goodIn_ca (goodIn_r _ [1239, 247, 225, 1240, 1241, 1242, 2, 1243, 230, 231, 1185, 1186, 1187, 1188, 35, 969, 970, 971, 972, 252, 253, 1189, 1054, 1055, 34, 1056, 1035, 115, 484, 485, 486, 254, 255, 256, 58, 257, 258, 487, 359, 360, 361, 70, 1370, 1371, 1372, 1373, 1374, 1304, 1305, 1306, 1307, 1308, 1352, 1353, 1354, 1355, 1356, 1357, 1358, 1359, 1360, 1361] (by decide +kernel) (by decide +kernel)) (goodIn_sub (fun _ h => List.mem_append_left _ (List.mem_append_right _ h)) (by decide +kernel))) (goodIn_sub (fun _ h => List.mem_append_right _ h) (by decide +kernel))
set_option maxRecDepth 20000 in
theorem gL_law_L_byteFound : GoodIn wsL_law (va_wsS RL 272 yL_byteFound wsL_byteFound) := goodIn_app (goodIn_of _ (by decide +kernel)) ggL_law_L_byteFound
set_option maxRecDepth 20000 in
theorem ggL_law_X12_byteFound : GoodIn wsL_law wsX12_byteFound := goodIn_r _ [1247, 142, 174, 144, 1194, 1195, 1196, 5, 1197, 668, 1113, 181, 182, 183, 184, 175, 176, 177, 1122, 1123, 1124, 1125, 140, 138, 139, 141, 1126, 1127, 1128, 1129, 886, 887, 888, 1130, 1131, 1132, 1133, 503, 504, 505, 289, 506, 507, 508, 509, 510, 1309, 1310, 1311, 1312, 1313, 1314, 1315, 1316, 1317, 1318, 1319, 1320, 1321, 1322, 1323, 1324, 1325, 1326, 1327, 1328, 1329, 1330, 1331, 1332, 1333] (by decide +kernel) (by decide +kernel)
set_option maxRecDepth 20000 in
theorem gL_law_X12_byteFound : GoodIn wsL_law (wsV RL 274 RX12 yX12_byteFound wsX12_byteFound) := goodIn_app (goodIn_of _ (by decide +kernel)) ggL_law_X12_byteFound
