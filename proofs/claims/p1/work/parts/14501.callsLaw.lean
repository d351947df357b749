set_option maxRecDepth 20000 in
theorem ggL_law_L_power : GoodIn wsL_law wsL_power := goodIn_ca (goodIn_r _ [209, 152, 210, 211, 212, 2, 213, 157, 158, 19, 159, 160, 161, 214, 215, 216, 18, 217, 51, 166, 167, 168, 169, 50, 1304, 1305, 1306, 1307, 1308, 1335, 1336] (by decide +kernel) (by decide +kernel)) (goodIn_sub (fun _ h => List.mem_append_left _ (List.mem_append_left _ (List.mem_append_right _ h))) (by decide +kernel))
set_option maxRecDepth 20000 in
theorem gL_law_L_power : GoodIn wsL_law (va_wsS RL 146 yL_power wsL_power) := goodIn_app (goodIn_of _ (by decide +kernel)) ggL_law_L_power
set_option maxRecDepth 20000 in
theorem ggL_law_X12_power : GoodIn wsL_law wsX12_power := goodIn_r _ [221, 174, 175, 176, 5, 177, 181, 182, 183, 184, 178, 179, 180, 1309, 1310, 1311, 1312, 1313, 1314, 1315, 1316, 1317, 1318, 1319, 1320, 1321, 1322, 1323, 1324, 1325, 1326, 1327, 1328, 1329, 1330, 1331, 1332, 1333] (by decide +kernel) (by decide +kernel)
set_option maxRecDepth 20000 in
theorem gL_law_X12_power : GoodIn wsL_law (wsV RL 148 RX12 yX12_power wsX12_power) := goodIn_app (goodIn_of _ (by decide +kernel)) ggL_law_X12_power
set_option maxRecDepth 20000 in
theorem ggL_law_L_coefficient : GoodIn wsL_law wsL_coefficient := goodIn_ca (goodIn_r _ [224, 225, 226, 227, 228, 2, 229, 230, 231, 19, 232, 233, 234, 18, 235, 236, 197, 198, 199, 51, 166, 167, 168, 169, 50, 1304, 1305, 1306, 1307, 1308, 1335, 1336] (by decide +kernel) (by decide +kernel)) (goodIn_sub (fun _ h => List.mem_append_left _ (List.mem_append_right _ h)) (by decide +kernel))
set_option maxRecDepth 20000 in
theorem gL_law_L_coefficient : GoodIn wsL_law (va_wsS RL 149 yL_coefficient wsL_coefficient) := goodIn_app (goodIn_of _ (by decide +kernel)) ggL_law_L_coefficient
set_option maxRecDepth 20000 in
theorem ggL_law_X12_coefficient : GoodIn wsL_law wsX12_coefficient := goodIn_r _ [240, 174, 175, 176, 5, 177, 241, 242, 243, 204, 205, 206, 178, 179, 180, 181, 182, 183, 184, 1309, 1310, 1311, 1312, 1313, 1314, 1315, 1316, 1317, 1318, 1319, 1320, 1321, 1322, 1323, 1324, 1325, 1326, 1327, 1328, 1329, 1330, 1331, 1332, 1333] (by decide +kernel) (by decide +kernel)
set_option maxRecDepth 20000 in
theorem gL_law_X12_coefficient : GoodIn wsL_law (wsV RL 151 RX12 yX12_coefficient wsX12_coefficient) := goodIn_app (goodIn_of _ (by decide +kernel)) ggL_law_X12_coefficient
set_option maxRecDepth 20000 in
theorem ggL_law_L_write : GoodIn wsL_law wsL_write := goodIn_ca (goodIn_ca (goodIn_r _ [246, 152, 247, 248, 249, 250, 2, 251, 157, 158, 252, 253, 23, 159, 160, 161, 254, 255, 256, 58, 257, 258, 259, 260, 261, 262, 263, 264, 265, 266, 70, 1304, 1305, 1306, 1307, 1308, 1337, 1338, 1339, 1340, 1341, 1360, 1361] (by decide +kernel) (by decide +kernel)) (goodIn_sub (fun _ h => List.mem_append_left _ (List.mem_append_left _ (List.mem_append_right _ h))) (by decide +kernel))) (goodIn_sub (fun _ h => List.mem_append_right _ h) (by decide +kernel))
set_option maxRecDepth 20000 in
theorem gL_law_L_write : GoodIn wsL_law (va_wsS RL 152 yL_write wsL_write) := goodIn_app (goodIn_of _ (by decide +kernel)) ggL_law_L_write
set_option maxRecDepth 20000 in
theorem ggL_law_X12_write : GoodIn wsL_law wsX12_write := goodIn_r _ [270, 174, 271, 130, 175, 176, 5, 177, 181, 182, 183, 184, 1309, 1310, 1311, 1312, 1313, 1314, 1315, 1316, 1317, 1318, 1319, 1320, 1321, 1322, 1323, 1324, 1325, 1326, 1327, 1328, 1329, 1330, 1331, 1332, 1333] (by decide +kernel) (by decide +kernel)
set_option maxRecDepth 20000 in
theorem gL_law_X12_write : GoodIn wsL_law (wsV RL 154 RX12 yX12_write wsX12_write) := goodIn_app (goodIn_of _ (by decide +kernel)) ggL_law_X12_write
set_option maxRecDepth 20000 in
theorem ggL_law_L_noise : GoodIn wsL_law wsL_noise := goodIn_ca (goodIn_ca (goodIn_r _ [274, 152, 247, 275, 276, 277, 2, 278, 157, 158, 252, 253, 23, 279, 280, 281, 282, 283, 254, 255, 256, 58, 257, 258, 284, 264, 265, 266, 70, 1304, 1305, 1306, 1307, 1308, 1337, 1338, 1339, 1340, 1341, 1360, 1361] (by decide +kernel) (by decide +kernel)) (goodIn_sub (fun _ h => List.mem_append_left _ (List.mem_append_left _ (List.mem_append_right _ h))) (by decide +kernel))) (goodIn_sub (fun _ h => List.mem_append_right _ h) (by decide +kernel))
set_option maxRecDepth 20000 in
theorem gL_law_L_noise : GoodIn wsL_law (va_wsS RL 155 yL_noise wsL_noise) := goodIn_app (goodIn_of _ (by decide +kernel)) ggL_law_L_noise
set_option maxRecDepth 20000 in
theorem ggL_law_X12_noise : GoodIn wsL_law wsX12_noise := goodIn_r _ [288, 174, 289, 271, 290, 130, 175, 176, 5, 177, 181, 182, 183, 184, 1309, 1310, 1311, 1312, 1313, 1314, 1315, 1316, 1317, 1318, 1319, 1320, 1321, 1322, 1323, 1324, 1325, 1326, 1327, 1328, 1329, 1330, 1331, 1332, 1333] (by decide +kernel) (by decide +kernel)
set_option maxRecDepth 20000 in
theorem gL_law_X12_noise : GoodIn wsL_law (wsV RL 157 RX12 yX12_noise wsX12_noise) := goodIn_app (goodIn_of _ (by decide +kernel)) ggL_law_X12_noise
