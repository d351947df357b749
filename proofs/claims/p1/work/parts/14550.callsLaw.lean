set_option maxRecDepth 20000 in
theorem ggL_law_L_keyFound : GoodIn wsL_law wsL_keyFound := goodIn_ca (goodIn_ca (goodIn_r _ [1180, 247, 225, 1181, 1182, 1183, 2, 1184, 1185, 1186, 1187, 1188, 230, 231, 35, 969, 970, 971, 972, 252, 253, 1189, 1054, 1055, 34, 1056, 1035, 115, 1370, 1371, 1372, 1373, 1374, 1304, 1305, 1306, 1307, 1308, 1352, 1353, 1354, 1355, 1356, 1357, 1358, 1359] (by decide +kernel) (by decide +kernel)) (goodIn_sub (fun _ h => List.mem_append_left _ (List.mem_append_right _ h)) (by decide +kernel))) (goodIn_sub (fun _ h => List.mem_append_right _ h) (by decide +kernel))
set_option maxRecDepth 20000 in
theorem gL_law_L_keyFound : GoodIn wsL_law (va_wsS RL 260 yL_keyFound wsL_keyFound) := goodIn_app (goodIn_of _ (by decide +kernel)) ggL_law_L_keyFound
set_option maxRecDepth 20000 in
theorem ggL_law_X12_keyFound : GoodIn wsL_law wsX12_keyFound := goodIn_r _ [1193, 139, 1194, 1195, 1196, 5, 1197, 174, 668, 1113, 181, 182, 183, 184, 175, 176, 177, 1309, 1310, 1311, 1312, 1313, 1314, 1315, 1316, 1317, 1318, 1319, 1320, 1321, 1322, 1323, 1324, 1325, 1326, 1327, 1328, 1329, 1330, 1331, 1332, 1333] (by decide +kernel) (by decide +kernel)
set_option maxRecDepth 20000 in
theorem gL_law_X12_keyFound : GoodIn wsL_law (wsV RL 262 RX12 yX12_keyFound wsX12_keyFound) := goodIn_app (goodIn_of _ (by decide +kernel)) ggL_law_X12_keyFound
set_option maxRecDepth 20000 in
theorem ggL_law_L_placeFound : GoodIn wsL_law wsL_placeFound := goodIn_ca (goodIn_ca (goodIn_r _ [1200, 247, 225, 1201, 1202, 1203, 2, 1204, 1185, 1186, 1187, 1188, 230, 231, 35, 969, 970, 971, 972, 252, 253, 1189, 1054, 1055, 34, 1056, 1035, 115, 1370, 1371, 1372, 1373, 1374, 1304, 1305, 1306, 1307, 1308, 1352, 1353, 1354, 1355, 1356, 1357, 1358, 1359] (by decide +kernel) (by decide +kernel)) (goodIn_sub (fun _ h => List.mem_append_left _ (List.mem_append_right _ h)) (by decide +kernel))) (goodIn_sub (fun _ h => List.mem_append_right _ h) (by decide +kernel))
set_option maxRecDepth 20000 in
theorem gL_law_L_placeFound : GoodIn wsL_law (va_wsS RL 263 yL_placeFound wsL_placeFound) := goodIn_app (goodIn_of _ (by decide +kernel)) ggL_law_L_placeFound
set_option maxRecDepth 20000 in
theorem ggL_law_X12_placeFound : GoodIn wsL_law wsX12_placeFound := goodIn_r _ [1208, 140, 1194, 1195, 1196, 5, 1197, 174, 668, 1113, 181, 182, 183, 184, 175, 176, 177, 1309, 1310, 1311, 1312, 1313, 1314, 1315, 1316, 1317, 1318, 1319, 1320, 1321, 1322, 1323, 1324, 1325, 1326, 1327, 1328, 1329, 1330, 1331, 1332, 1333] (by decide +kernel) (by decide +kernel)
set_option maxRecDepth 20000 in
theorem gL_law_X12_placeFound : GoodIn wsL_law (wsV RL 265 RX12 yX12_placeFound wsX12_placeFound) := goodIn_app (goodIn_of _ (by decide +kernel)) ggL_law_X12_placeFound
set_option maxRecDepth 20000 in
theorem ggL_law_L_isGood : GoodIn wsL_law wsL_isGood := goodIn_ca (goodIn_ca (goodIn_r _ [1211, 247, 225, 1212, 1213, 1214, 2, 1215, 1185, 1186, 1187, 1188, 230, 231, 35, 969, 970, 971, 972, 252, 253, 1189, 1054, 1055, 34, 1056, 1035, 115, 1370, 1371, 1372, 1373, 1374, 1304, 1305, 1306, 1307, 1308, 1352, 1353, 1354, 1355, 1356, 1357, 1358, 1359] (by decide +kernel) (by decide +kernel)) (goodIn_sub (fun _ h => List.mem_append_left _ (List.mem_append_right _ h)) (by decide +kernel))) (goodIn_sub (fun _ h => List.mem_append_right _ h) (by decide +kernel))
set_option maxRecDepth 20000 in
theorem gL_law_L_isGood : GoodIn wsL_law (va_wsS RL 266 yL_isGood wsL_isGood) := goodIn_app (goodIn_of _ (by decide +kernel)) ggL_law_L_isGood
