set_option maxRecDepth 20000 in
theorem ggL_law_L_exchange : GoodIn wsL_law wsL_exchange := goodIn_ca (goodIn_r _ [809, 225, 810, 811, 812, 2, 813, 27, 700, 701, 702, 703, 230, 231, 704, 705, 706, 26, 707, 83, 814, 815, 816, 817, 818, 730, 731, 732, 88, 733, 612, 1304, 1305, 1306, 1307, 1308, 1342, 1343, 1344, 1345, 1346, 1347, 1348, 1366, 1367, 1368, 1369] (by decide +kernel) (by decide +kernel)) (goodIn_sub (fun _ h => List.mem_append_left _ (List.mem_append_right _ h)) (by decide +kernel))
set_option maxRecDepth 20000 in
theorem gL_law_L_exchange : GoodIn wsL_law (va_wsS RL 216 yL_exchange wsL_exchange) := goodIn_app (goodIn_of _ (by decide +kernel)) ggL_law_L_exchange
set_option maxRecDepth 20000 in
theorem ggL_law_X12_exchange : GoodIn wsL_law wsX12_exchange := goodIn_r _ [822, 174, 136, 137, 716, 717, 5, 718, 175, 176, 177, 181, 182, 183, 184, 1309, 1310, 1311, 1312, 1313, 1314, 1315, 1316, 1317, 1318, 1319, 1320, 1321, 1322, 1323, 1324, 1325, 1326, 1327, 1328, 1329, 1330, 1331, 1332, 1333] (by decide +kernel) (by decide +kernel)
set_option maxRecDepth 20000 in
theorem gL_law_X12_exchange : GoodIn wsL_law (wsV RL 218 RX12 yX12_exchange wsX12_exchange) := goodIn_app (goodIn_of _ (by decide +kernel)) ggL_law_X12_exchange
set_option maxRecDepth 20000 in
theorem ggL_law_L_copy : GoodIn wsL_law wsL_copy := goodIn_ca (goodIn_r _ [825, 225, 826, 827, 828, 2, 829, 726, 727, 728, 729, 230, 231, 700, 701, 702, 703, 27, 704, 705, 706, 26, 707, 83, 730, 731, 732, 88, 733, 612, 830, 831, 832, 833, 95, 613, 834, 346, 347, 58, 348, 349, 350, 351, 352, 258, 353, 255, 256, 257, 354, 355, 356, 357, 358, 359, 360, 361, 70, 263, 264, 265, 266, 708, 709, 710, 711, 645, 1304, 1305, 1306, 1307, 1308, 1342, 1343, 1344, 1345, 1346, 1347, 1348, 1366, 1367, 1368, 1369, 1360, 1361] (by decide +kernel) (by decide +kernel)) (goodIn_sub (fun _ h => List.mem_append_left _ (List.mem_append_right _ h)) (by decide +kernel))
set_option maxRecDepth 20000 in
theorem gL_law_L_copy : GoodIn wsL_law (va_wsS RL 219 yL_copy wsL_copy) := goodIn_app (goodIn_of _ (by decide +kernel)) ggL_law_L_copy
set_option maxRecDepth 20000 in
theorem ggL_law_X12_copy : GoodIn wsL_law wsX12_copy := goodIn_r _ [838, 174, 137, 40, 136, 413, 414, 415, 416, 742, 743, 744, 5, 745, 716, 717, 718, 175, 176, 177, 181, 182, 183, 184, 1309, 1310, 1311, 1312, 1313, 1314, 1315, 1316, 1317, 1318, 1319, 1320, 1321, 1322, 1323, 1324, 1325, 1326, 1327, 1328, 1329, 1330, 1331, 1332, 1333] (by decide +kernel) (by decide +kernel)
set_option maxRecDepth 20000 in
theorem gL_law_X12_copy : GoodIn wsL_law (wsV RL 221 RX12 yX12_copy wsX12_copy) := goodIn_app (goodIn_of _ (by decide +kernel)) ggL_law_X12_copy
set_option maxRecDepth 20000 in
theorem ggL_law_L_isSound : GoodIn wsL_law wsL_isSound := goodIn_ca (goodIn_r _ [841, 225, 842, 843, 844, 2, 845, 700, 701, 702, 703, 230, 231, 27, 704, 705, 706, 26, 707, 83, 846, 847, 848, 88, 849, 613, 95, 850, 851, 852, 853, 612, 645, 255, 256, 58, 257, 258, 757, 359, 360, 361, 70, 854, 855, 856, 857, 858, 859, 860, 861, 862, 863, 864, 865, 866, 867, 868, 869, 870, 871, 872, 873, 358, 874, 875, 876, 877, 614, 615, 639, 640, 641, 642, 96, 643, 644, 369, 370, 15, 371, 367, 41, 372, 1304, 1305, 1306, 1307, 1308, 1342, 1343, 1344, 1345, 1346, 1347, 1348, 1366, 1367, 1368, 1369, 1360, 1361, 1334] (by decide +kernel) (by decide +kernel)) (goodIn_sub (fun _ h => List.mem_append_left _ (List.mem_append_right _ h)) (by decide +kernel))
set_option maxRecDepth 20000 in
theorem gL_law_L_isSound : GoodIn wsL_law (va_wsS RL 222 yL_isSound wsL_isSound) := goodIn_app (goodIn_of _ (by decide +kernel)) ggL_law_L_isSound
