set_option maxRecDepth 20000 in
theorem ggL_law_X12_sign : GoodIn wsL_law wsX12_sign := goodIn_r _ [774, 174, 137, 136, 742, 743, 744, 5, 745, 716, 717, 718, 175, 176, 177, 181, 182, 183, 184, 686, 687, 688, 503, 504, 505, 289, 506, 507, 508, 509, 510, 673, 674, 675, 1309, 1310, 1311, 1312, 1313, 1314, 1315, 1316, 1317, 1318, 1319, 1320, 1321, 1322, 1323, 1324, 1325, 1326, 1327, 1328, 1329, 1330, 1331, 1332, 1333] (by decide +kernel) (by decide +kernel)
set_option maxRecDepth 20000 in
theorem gL_law_X12_sign : GoodIn wsL_law (wsV RL 209 RX12 yX12_sign wsX12_sign) := goodIn_app (goodIn_of _ (by decide +kernel)) ggL_law_X12_sign
set_option maxRecDepth 20000 in
theorem ggL_law_L_cut : GoodIn wsL_law wsL_cut := goodIn_ca (goodIn_ca (goodIn_r _ [777, 225, 152, 778, 779, 780, 2, 781, 157, 158, 726, 727, 728, 729, 230, 231, 700, 701, 702, 703, 27, 704, 705, 706, 26, 707, 83, 730, 731, 732, 88, 733, 612, 708, 709, 710, 711, 95, 645, 255, 256, 58, 257, 258, 782, 783, 784, 785, 613, 786, 299, 300, 301, 1304, 1305, 1306, 1307, 1308, 1342, 1343, 1344, 1345, 1346, 1347, 1348, 1366, 1367, 1368, 1369, 1360, 1361] (by decide +kernel) (by decide +kernel)) (goodIn_sub (fun _ h => List.mem_append_left _ (List.mem_append_left _ (List.mem_append_right _ h))) (by decide +kernel))) (goodIn_sub (fun _ h => List.mem_append_left _ (List.mem_append_right _ h)) (by decide +kernel))
set_option maxRecDepth 20000 in
theorem gL_law_L_cut : GoodIn wsL_law (va_wsS RL 210 yL_cut wsL_cut) := goodIn_app (goodIn_of _ (by decide +kernel)) ggL_law_L_cut
set_option maxRecDepth 20000 in
theorem ggL_law_X12_cut : GoodIn wsL_law wsX12_cut := goodIn_r _ [790, 174, 137, 742, 743, 744, 5, 745, 716, 717, 718, 175, 176, 177, 181, 182, 183, 184, 1309, 1310, 1311, 1312, 1313, 1314, 1315, 1316, 1317, 1318, 1319, 1320, 1321, 1322, 1323, 1324, 1325, 1326, 1327, 1328, 1329, 1330, 1331, 1332, 1333] (by decide +kernel) (by decide +kernel)
set_option maxRecDepth 20000 in
theorem gL_law_X12_cut : GoodIn wsL_law (wsV RL 212 RX12 yX12_cut wsX12_cut) := goodIn_app (goodIn_of _ (by decide +kernel)) ggL_law_X12_cut
set_option maxRecDepth 20000 in
theorem ggL_law_L_lose : GoodIn wsL_law wsL_lose := goodIn_ca (goodIn_r _ [793, 225, 794, 795, 796, 2, 797, 700, 701, 702, 703, 230, 231, 27, 704, 705, 706, 26, 707, 83, 730, 731, 732, 88, 733, 612, 798, 652, 653, 654, 95, 613, 616, 350, 351, 58, 352, 258, 1304, 1305, 1306, 1307, 1308, 1342, 1343, 1344, 1345, 1346, 1347, 1348, 1366, 1367, 1368, 1369, 1360, 1361] (by decide +kernel) (by decide +kernel)) (goodIn_sub (fun _ h => List.mem_append_left _ (List.mem_append_right _ h)) (by decide +kernel))
set_option maxRecDepth 20000 in
theorem gL_law_L_lose : GoodIn wsL_law (va_wsS RL 213 yL_lose wsL_lose) := goodIn_app (goodIn_of _ (by decide +kernel)) ggL_law_L_lose
set_option maxRecDepth 20000 in
theorem ggL_law_X12_lose : GoodIn wsL_law wsX12_lose := goodIn_r _ [802, 174, 137, 716, 717, 5, 718, 175, 176, 177, 803, 804, 805, 806, 1309, 1310, 1311, 1312, 1313, 1314, 1315, 1316, 1317, 1318, 1319, 1320, 1321, 1322, 1323, 1324, 1325, 1326, 1327, 1328, 1329, 1330, 1331, 1332, 1333] (by decide +kernel) (by decide +kernel)
set_option maxRecDepth 20000 in
theorem gL_law_X12_lose : GoodIn wsL_law (wsV RL 215 RX12 yX12_lose wsX12_lose) := goodIn_app (goodIn_of _ (by decide +kernel)) ggL_law_X12_lose
