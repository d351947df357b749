set_option maxRecDepth 20000 in
theorem ggL_law_X12_streamAt : GoodIn wsL_law wsX12_streamAt := goodIn_r _ [1155, 174, 668, 138, 181, 182, 183, 5, 184, 175, 176, 177, 1309, 1310, 1311, 1312, 1313, 1314, 1315, 1316, 1317, 1318, 1319, 1320, 1321, 1322, 1323, 1324, 1325, 1326, 1327, 1328, 1329, 1330, 1331, 1332, 1333] (by decide +kernel) (by decide +kernel)
set_option maxRecDepth 20000 in
theorem gL_law_X12_streamAt : GoodIn wsL_law (wsV RL 253 RX12 yX12_streamAt wsX12_streamAt) := goodIn_app (goodIn_of _ (by decide +kernel)) ggL_law_X12_streamAt
set_option maxRecDepth 20000 in
theorem ggL_law_L_hasIndex : GoodIn wsL_law wsL_hasIndex := goodIn_ca (goodIn_r _ [1158, 247, 1159, 1160, 1161, 2, 1162, 35, 969, 970, 971, 972, 252, 253, 1304, 1305, 1306, 1307, 1308, 1352, 1353, 1354, 1355, 1356, 1357, 1358, 1359] (by decide +kernel) (by decide +kernel)) (goodIn_sub (fun _ h => List.mem_append_right _ h) (by decide +kernel))
set_option maxRecDepth 20000 in
theorem gL_law_L_hasIndex : GoodIn wsL_law (va_wsS RL 254 yL_hasIndex wsL_hasIndex) := goodIn_app (goodIn_of _ (by decide +kernel)) ggL_law_L_hasIndex
set_option maxRecDepth 20000 in
theorem ggL_law_X12_hasIndex : GoodIn wsL_law wsX12_hasIndex := goodIn_r _ [1166, 174, 668, 1112, 803, 804, 805, 5, 806, 1309, 1310, 1311, 1312, 1313, 1314, 1315, 1316, 1317, 1318, 1319, 1320, 1321, 1322, 1323, 1324, 1325, 1326, 1327, 1328, 1329, 1330, 1331, 1332, 1333] (by decide +kernel) (by decide +kernel)
set_option maxRecDepth 20000 in
theorem gL_law_X12_hasIndex : GoodIn wsL_law (wsV RL 256 RX12 yX12_hasIndex wsX12_hasIndex) := goodIn_app (goodIn_of _ (by decide +kernel)) ggL_law_X12_hasIndex
set_option maxRecDepth 20000 in
theorem ggL_law_L_found : GoodIn wsL_law wsL_found := goodIn_ca (goodIn_r _ [1169, 247, 1170, 1171, 1172, 2, 1173, 35, 969, 970, 971, 972, 252, 253, 1304, 1305, 1306, 1307, 1308, 1352, 1353, 1354, 1355, 1356, 1357, 1358, 1359] (by decide +kernel) (by decide +kernel)) (goodIn_sub (fun _ h => List.mem_append_right _ h) (by decide +kernel))
set_option maxRecDepth 20000 in
theorem gL_law_L_found : GoodIn wsL_law (va_wsS RL 257 yL_found wsL_found) := goodIn_app (goodIn_of _ (by decide +kernel)) ggL_law_L_found
set_option maxRecDepth 20000 in
theorem ggL_law_X12_found : GoodIn wsL_law wsX12_found := goodIn_r _ [1177, 174, 668, 1113, 181, 182, 183, 5, 184, 1309, 1310, 1311, 1312, 1313, 1314, 1315, 1316, 1317, 1318, 1319, 1320, 1321, 1322, 1323, 1324, 1325, 1326, 1327, 1328, 1329, 1330, 1331, 1332, 1333] (by decide +kernel) (by decide +kernel)
set_option maxRecDepth 20000 in
theorem gL_law_X12_found : GoodIn wsL_law (wsV RL 259 RX12 yX12_found wsX12_found) := goodIn_app (goodIn_of _ (by decide +kernel)) ggL_law_X12_found
