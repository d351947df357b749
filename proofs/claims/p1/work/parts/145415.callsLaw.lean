set_option maxRecDepth 20000 in
theorem ggL_law_L_opened : GoodIn wsL_law wsL_opened := goodIn_ca (goodIn_r _ [1136, 247, 1137, 1138, 1139, 2, 1140, 35, 969, 970, 971, 972, 252, 253, 254, 255, 256, 58, 257, 258, 1304, 1305, 1306, 1307, 1308, 1352, 1353, 1354, 1355, 1356, 1357, 1358, 1359, 1360, 1361] (by decide +kernel) (by decide +kernel)) (goodIn_sub (fun _ h => List.mem_append_right _ h) (by decide +kernel))
set_option maxRecDepth 20000 in
theorem gL_law_L_opened : GoodIn wsL_law (va_wsS RL 248 yL_opened wsL_opened) := goodIn_app (goodIn_of _ (by decide +kernel)) ggL_law_L_opened
set_option maxRecDepth 20000 in
theorem ggL_law_X12_opened : GoodIn wsL_law wsX12_opened := goodIn_r _ [1144, 174, 668, 138, 181, 182, 183, 5, 184, 1309, 1310, 1311, 1312, 1313, 1314, 1315, 1316, 1317, 1318, 1319, 1320, 1321, 1322, 1323, 1324, 1325, 1326, 1327, 1328, 1329, 1330, 1331, 1332, 1333] (by decide +kernel) (by decide +kernel)
set_option maxRecDepth 20000 in
theorem gL_law_X12_opened : GoodIn wsL_law (wsV RL 250 RX12 yX12_opened wsX12_opened) := goodIn_app (goodIn_of _ (by decide +kernel)) ggL_law_X12_opened
set_option maxRecDepth 20000 in
theorem ggL_law_L_streamAt : GoodIn wsL_law wsL_streamAt := goodIn_ca (goodIn_ca (goodIn_r _ [1147, 247, 225, 1148, 1149, 1150, 2, 1151, 35, 969, 970, 971, 972, 252, 253, 484, 485, 486, 230, 231, 254, 255, 256, 58, 257, 258, 487, 359, 360, 361, 70, 1304, 1305, 1306, 1307, 1308, 1352, 1353, 1354, 1355, 1356, 1357, 1358, 1359, 1360, 1361] (by decide +kernel) (by decide +kernel)) (goodIn_sub (fun _ h => List.mem_append_right _ h) (by decide +kernel))) (goodIn_sub (fun _ h => List.mem_append_left _ (List.mem_append_right _ h)) (by decide +kernel))
set_option maxRecDepth 20000 in
theorem gL_law_L_streamAt : GoodIn wsL_law (va_wsS RL 251 yL_streamAt wsL_streamAt) := goodIn_app (goodIn_of _ (by decide +kernel)) ggL_law_L_streamAt
