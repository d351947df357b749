set_option maxRecDepth 20000 in
theorem ggL_law_L_keyOf : GoodIn wsL_law wsL_keyOf := goodIn_ca (goodIn_r _ [448, 225, 449, 450, 451, 2, 452, 453, 454, 455, 456, 230, 231, 23, 457, 327, 328, 22, 329, 317, 62, 1362, 1363, 1364, 1365, 1304, 1305, 1306, 1307, 1308, 1337, 1338, 1339, 1340, 1341] (by decide +kernel) (by decide +kernel)) (goodIn_sub (fun _ h => List.mem_append_left _ (List.mem_append_right _ h)) (by decide +kernel))
set_option maxRecDepth 20000 in
theorem gL_law_L_keyOf : GoodIn wsL_law (va_wsS RL 172 yL_keyOf wsL_keyOf) := goodIn_app (goodIn_of _ (by decide +kernel)) ggL_law_L_keyOf
set_option maxRecDepth 20000 in
theorem ggL_law_X12_keyOf : GoodIn wsL_law wsX12_keyOf := goodIn_r _ [461, 174, 131, 462, 463, 464, 5, 465, 404, 175, 176, 177, 181, 182, 183, 184, 1309, 1310, 1311, 1312, 1313, 1314, 1315, 1316, 1317, 1318, 1319, 1320, 1321, 1322, 1323, 1324, 1325, 1326, 1327, 1328, 1329, 1330, 1331, 1332, 1333] (by decide +kernel) (by decide +kernel)
set_option maxRecDepth 20000 in
theorem gL_law_X12_keyOf : GoodIn wsL_law (wsV RL 174 RX12 yX12_keyOf wsX12_keyOf) := goodIn_app (goodIn_of _ (by decide +kernel)) ggL_law_X12_keyOf
set_option maxRecDepth 20000 in
theorem ggL_law_L_lengthOf : GoodIn wsL_law wsL_lengthOf := goodIn_ca (goodIn_r _ [468, 225, 469, 470, 471, 2, 472, 453, 454, 455, 456, 230, 231, 23, 457, 327, 328, 22, 329, 317, 62, 254, 255, 256, 58, 257, 258, 1362, 1363, 1364, 1365, 1304, 1305, 1306, 1307, 1308, 1337, 1338, 1339, 1340, 1341, 1360, 1361] (by decide +kernel) (by decide +kernel)) (goodIn_sub (fun _ h => List.mem_append_left _ (List.mem_append_right _ h)) (by decide +kernel))
set_option maxRecDepth 20000 in
theorem gL_law_L_lengthOf : GoodIn wsL_law (va_wsS RL 175 yL_lengthOf wsL_lengthOf) := goodIn_app (goodIn_of _ (by decide +kernel)) ggL_law_L_lengthOf
set_option maxRecDepth 20000 in
theorem ggL_law_X12_lengthOf : GoodIn wsL_law wsX12_lengthOf := goodIn_r _ [476, 174, 132, 462, 463, 464, 5, 465, 404, 175, 176, 177, 181, 182, 183, 184, 1309, 1310, 1311, 1312, 1313, 1314, 1315, 1316, 1317, 1318, 1319, 1320, 1321, 1322, 1323, 1324, 1325, 1326, 1327, 1328, 1329, 1330, 1331, 1332, 1333] (by decide +kernel) (by decide +kernel)
set_option maxRecDepth 20000 in
theorem gL_law_X12_lengthOf : GoodIn wsL_law (wsV RL 177 RX12 yX12_lengthOf wsX12_lengthOf) := goodIn_app (goodIn_of _ (by decide +kernel)) ggL_law_X12_lengthOf
set_option maxRecDepth 20000 in
theorem ggL_law_L_contentAt : GoodIn wsL_law wsL_contentAt := goodIn_ca (goodIn_r _ [479, 225, 480, 481, 482, 2, 483, 453, 454, 455, 456, 230, 231, 23, 457, 327, 328, 22, 329, 317, 62, 484, 485, 486, 254, 255, 256, 58, 257, 258, 487, 359, 360, 361, 70, 1362, 1363, 1364, 1365, 1304, 1305, 1306, 1307, 1308, 1337, 1338, 1339, 1340, 1341, 1360, 1361] (by decide +kernel) (by decide +kernel)) (goodIn_sub (fun _ h => List.mem_append_left _ (List.mem_append_right _ h)) (by decide +kernel))
set_option maxRecDepth 20000 in
theorem gL_law_L_contentAt : GoodIn wsL_law (va_wsS RL 178 yL_contentAt wsL_contentAt) := goodIn_app (goodIn_of _ (by decide +kernel)) ggL_law_L_contentAt
set_option maxRecDepth 20000 in
theorem ggL_law_X12_contentAt : GoodIn wsL_law wsX12_contentAt := goodIn_r _ [491, 174, 132, 134, 462, 463, 464, 5, 465, 404, 175, 176, 177, 181, 182, 183, 184, 1309, 1310, 1311, 1312, 1313, 1314, 1315, 1316, 1317, 1318, 1319, 1320, 1321, 1322, 1323, 1324, 1325, 1326, 1327, 1328, 1329, 1330, 1331, 1332, 1333] (by decide +kernel) (by decide +kernel)
set_option maxRecDepth 20000 in
theorem gL_law_X12_contentAt : GoodIn wsL_law (wsV RL 180 RX12 yX12_contentAt wsX12_contentAt) := goodIn_app (goodIn_of _ (by decide +kernel)) ggL_law_X12_contentAt
set_option maxRecDepth 20000 in
theorem ggL_law_L_checkOf : GoodIn wsL_law wsL_checkOf := goodIn_ca (goodIn_r _ [494, 225, 495, 496, 497, 2, 498, 453, 454, 455, 456, 230, 231, 23, 457, 327, 328, 22, 329, 317, 62, 1362, 1363, 1364, 1365, 1304, 1305, 1306, 1307, 1308, 1337, 1338, 1339, 1340, 1341] (by decide +kernel) (by decide +kernel)) (goodIn_sub (fun _ h => List.mem_append_left _ (List.mem_append_right _ h)) (by decide +kernel))
set_option maxRecDepth 20000 in
theorem gL_law_L_checkOf : GoodIn wsL_law (va_wsS RL 181 yL_checkOf wsL_checkOf) := goodIn_app (goodIn_of _ (by decide +kernel)) ggL_law_L_checkOf
set_option maxRecDepth 20000 in
theorem ggL_law_X12_checkOf : GoodIn wsL_law wsX12_checkOf := goodIn_r _ [502, 174, 134, 132, 462, 463, 464, 5, 465, 404, 175, 176, 177, 503, 504, 505, 289, 506, 507, 508, 509, 510, 181, 182, 183, 184, 1309, 1310, 1311, 1312, 1313, 1314, 1315, 1316, 1317, 1318, 1319, 1320, 1321, 1322, 1323, 1324, 1325, 1326, 1327, 1328, 1329, 1330, 1331, 1332, 1333] (by decide +kernel) (by decide +kernel)
set_option maxRecDepth 20000 in
theorem gL_law_X12_checkOf : GoodIn wsL_law (wsV RL 183 RX12 yX12_checkOf wsX12_checkOf) := goodIn_app (goodIn_of _ (by decide +kernel)) ggL_law_X12_checkOf
