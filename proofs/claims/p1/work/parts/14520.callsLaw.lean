set_option maxRecDepth 20000 in
theorem ggL_law_L_packedLength : GoodIn wsL_law wsL_packedLength := goodIn_ca (goodIn_r _ [513, 225, 514, 515, 516, 2, 517, 453, 454, 455, 456, 230, 231, 23, 457, 327, 328, 22, 329, 317, 62, 254, 255, 256, 58, 257, 258, 1362, 1363, 1364, 1365, 1304, 1305, 1306, 1307, 1308, 1337, 1338, 1339, 1340, 1341, 1360, 1361] (by decide +kernel) (by decide +kernel)) (goodIn_sub (fun _ h => List.mem_append_left _ (List.mem_append_right _ h)) (by decide +kernel))
set_option maxRecDepth 20000 in
theorem gL_law_L_packedLength : GoodIn wsL_law (va_wsS RL 184 yL_packedLength wsL_packedLength) := goodIn_app (goodIn_of _ (by decide +kernel)) ggL_law_L_packedLength
set_option maxRecDepth 20000 in
theorem ggL_law_X12_packedLength : GoodIn wsL_law wsX12_packedLength := goodIn_r _ [521, 174, 134, 132, 462, 463, 464, 5, 465, 404, 175, 176, 177, 522, 523, 524, 525, 143, 526, 527, 528, 181, 182, 183, 184, 1309, 1310, 1311, 1312, 1313, 1314, 1315, 1316, 1317, 1318, 1319, 1320, 1321, 1322, 1323, 1324, 1325, 1326, 1327, 1328, 1329, 1330, 1331, 1332, 1333] (by decide +kernel) (by decide +kernel)
set_option maxRecDepth 20000 in
theorem gL_law_X12_packedLength : GoodIn wsL_law (wsV RL 186 RX12 yX12_packedLength wsX12_packedLength) := goodIn_app (goodIn_of _ (by decide +kernel)) ggL_law_X12_packedLength
set_option maxRecDepth 20000 in
theorem ggL_law_L_packedAt : GoodIn wsL_law wsL_packedAt := goodIn_ca (goodIn_r _ [531, 225, 532, 533, 534, 2, 535, 453, 454, 455, 456, 230, 231, 23, 457, 327, 328, 22, 329, 317, 62, 484, 485, 486, 254, 255, 256, 58, 257, 258, 487, 359, 360, 361, 70, 1362, 1363, 1364, 1365, 1304, 1305, 1306, 1307, 1308, 1337, 1338, 1339, 1340, 1341, 1360, 1361] (by decide +kernel) (by decide +kernel)) (goodIn_sub (fun _ h => List.mem_append_left _ (List.mem_append_right _ h)) (by decide +kernel))
set_option maxRecDepth 20000 in
theorem gL_law_L_packedAt : GoodIn wsL_law (va_wsS RL 187 yL_packedAt wsL_packedAt) := goodIn_app (goodIn_of _ (by decide +kernel)) ggL_law_L_packedAt
set_option maxRecDepth 20000 in
theorem ggL_law_X12_packedAt : GoodIn wsL_law wsX12_packedAt := goodIn_r _ [539, 174, 134, 132, 143, 462, 463, 464, 5, 465, 404, 175, 176, 177, 522, 523, 524, 525, 526, 527, 528, 181, 182, 183, 184, 1309, 1310, 1311, 1312, 1313, 1314, 1315, 1316, 1317, 1318, 1319, 1320, 1321, 1322, 1323, 1324, 1325, 1326, 1327, 1328, 1329, 1330, 1331, 1332, 1333] (by decide +kernel) (by decide +kernel)
set_option maxRecDepth 20000 in
theorem gL_law_X12_packedAt : GoodIn wsL_law (wsV RL 189 RX12 yX12_packedAt wsX12_packedAt) := goodIn_app (goodIn_of _ (by decide +kernel)) ggL_law_X12_packedAt
set_option maxRecDepth 20000 in
theorem ggL_law_X11_streamLength : GoodIn wsL_law wsX11_streamLength := goodIn_r _ [543, 23, 544, 545, 546, 22, 547, 317, 326, 327, 328, 329, 62, 548, 549, 550, 65, 551, 76, 75, 552, 553, 554, 555, 362, 255, 256, 58, 257, 258, 1304, 1305, 1306, 1307, 1308, 1337, 1338, 1339, 1340, 1341, 1362, 1363, 1364, 1365, 1360, 1361] (by decide +kernel) (by decide +kernel)
set_option maxRecDepth 20000 in
theorem gL_law_X11_streamLength : GoodIn wsL_law (wsV RL 190 RX11 yX11_streamLength wsX11_streamLength) := goodIn_app (goodIn_of _ (by decide +kernel)) ggL_law_X11_streamLength
