set_option maxRecDepth 20000 in
theorem ggL_law_X12_sign : GoodIn wsL_law wsX12_sign := goodIn_r _ [774, 174, 137, 136, 742, 743, 744, 5, 745, 716, 717, 718, 175, 176, 177, 181, 182, 183, 184, 686, 687, 688, 503, 504, 505, 289, 506, 507, 508, 509, 510, 673, 674, 675, 1309, 1310, 1311, 1312, 1313, 1314, 1315, 1316, 1317, 1318, 1319, 1320, 1321, 1322, 1323, 1324, 1325, 1326, 1327, 1328, 1329, 1330, 1331, 1332, 1333] (by decide +kernel) (by decide +kernel)
set_option maxRecDepth 20000 in
theorem gL_law_X12_sign : GoodIn wsL_law (wsV RL 209 RX12 yX12_sign wsX12_sign) := goodIn_app (goodIn_of _ (by decide +kernel)) ggL_law_X12_sign
set_option maxRecDepth 20000 in
theorem ggL_law_L_cut : GoodIn wsL_law wsL_cut := goodIn_ca (goodIn_ca (goodIn_r _ [777, 225, 152, 778, 779, 780, 2, 781, 157, 158, 726, 727, 728, 729, 230, 231, 700, 701, 702, 703, 27, 704, 705, 706, 26, 707, 83, 730, 731, 732, 88, 733, 612, 708, 709, 710, 711, 95, 645, 255, 256, 58, 257, 258, 782, 783, 784, 785, 613, 786, 299, 300, 301, 1304, 1305, 1306, 1307, 1308, 1342, 1343, 1344, 1345, 1346, 1347, 1348, 1366, 1367, 1368, 1369, 1360, 1361] (by decide +kernel) (by decide +kernel)) (goodIn_sub (fun _ h => List.mem_append_left _ (List.mem_append_left _ (List.mem_append_right _ h))) (by decide +kernel))) (goodIn_sub (fun _ h => List.mem_append_left _ (List.mem_append_right _ h)) (by decide +kernel))
set_option maxRecDepth 20000 in
theorem gL_law_L_cut : GoodIn wsL_law (va_wsS RL 210 yL_cut wsL_cut) := goodIn_app (goodIn_of _ (by decide +kernel)) ggL_law_L_cut
set_option maxRecDepth 20000 in
theorem ggL_law_X12_cut : GoodIn wsL_law wsX12_cut := goodIn_r _ [790, 174, 137, 742, 743, 744, 5, 745, 716, 717, 718, 175, 176, 177, 181, 182, 183, 184, 1309, 1310, 1311, 1312, 1313, 1314, 1315, 1316, 1317, 1318, 1319, 1320, 1321, 1322, 1323, 1324, 1325, 1326, 1327, 1328, 1329, 1330, 1331, 1332, 1333] (by decide +kernel) (by decide +kernel)
set_option maxRecDepth 20000 in
theorem gL_law_X12_cut : GoodIn wsL_law (wsV RL 212 RX12 yX12_cut wsX12_cut) := goodIn_app (goodIn_of _ (by decide +kernel)) ggL_law_X12_cut
set_option maxRecDepth 20000 in
theorem ggL_law_L_lose : GoodIn wsL_law wsL_lose := goodIn_ca (goodIn_r _ [793, 225, 794, 795, 796, 2, 797, 700, 701, 702, 703, 230, 231, 27, 704, 705, 706, 26, 707, 83, 730, 731, 732, 88, 733, 612, 798, 652, 653, 654, 95, 613, 616, 350, 351, 58, 352, 258, 1304, 1305, 1306, 1307, 1308, 1342, 1343, 1344, 1345, 1346, 1347, 1348, 1366, 1367, 1368, 1369, 1360, 1361] (by decide +kernel) (by decide +kernel)) (goodIn_sub (fun _ h => List.mem_append_left _ (List.mem_append_right _ h)) (by decide +kernel))
set_option maxRecDepth 20000 in
theorem gL_law_L_lose : GoodIn wsL_law (va_wsS RL 213 yL_lose wsL_lose) := goodIn_app (goodIn_of _ (by decide +kernel)) ggL_law_L_lose
set_option maxRecDepth 20000 in
theorem ggL_law_X12_lose : GoodIn wsL_law wsX12_lose := goodIn_r _ [802, 174, 137, 716, 717, 5, 718, 175, 176, 177, 803, 804, 805, 806, 1309, 1310, 1311, 1312, 1313, 1314, 1315, 1316, 1317, 1318, 1319, 1320, 1321, 1322, 1323, 1324, 1325, 1326, 1327, 1328, 1329, 1330, 1331, 1332, 1333] (by decide +kernel) (by decide +kernel)
set_option maxRecDepth 20000 in
theorem gL_law_X12_lose : GoodIn wsL_law (wsV RL 215 RX12 yX12_lose wsX12_lose) := goodIn_app (goodIn_of _ (by decide +kernel)) ggL_law_X12_lose
set_option maxRecDepth 20000 in
theorem ggL_law_L_exchange : GoodIn wsL_law wsL_exchange := goodIn_ca (goodIn_r _ [809, 225, 810, 811, 812, 2, 813, 27, 700, 701, 702, 703, 230, 231, 704, 705, 706, 26, 707, 83, 814, 815, 816, 817, 818, 730, 731, 732, 88, 733, 612, 1304, 1305, 1306, 1307, 1308, 1342, 1343, 1344, 1345, 1346, 1347, 1348, 1366, 1367, 1368, 1369] (by decide +kernel) (by decide +kernel)) (goodIn_sub (fun _ h => List.mem_append_left _ (List.mem_append_right _ h)) (by decide +kernel))
set_option maxRecDepth 20000 in
theorem gL_law_L_exchange : GoodIn wsL_law (va_wsS RL 216 yL_exchange wsL_exchange) := goodIn_app (goodIn_of _ (by decide +kernel)) ggL_law_L_exchange
set_option maxRecDepth 20000 in
theorem ggL_law_X12_exchange : GoodIn wsL_law wsX12_exchange := goodIn_r _ [822, 174, 136, 137, 716, 717, 5, 718, 175, 176, 177, 181, 182, 183, 184, 1309, 1310, 1311, 1312, 1313, 1314, 1315, 1316, 1317, 1318, 1319, 1320, 1321, 1322, 1323, 1324, 1325, 1326, 1327, 1328, 1329, 1330, 1331, 1332, 1333] (by decide +kernel) (by decide +kernel)
set_option maxRecDepth 20000 in
theorem gL_law_X12_exchange : GoodIn wsL_law (wsV RL 218 RX12 yX12_exchange wsX12_exchange) := goodIn_app (goodIn_of _ (by decide +kernel)) ggL_law_X12_exchange
set_option maxRecDepth 20000 in
theorem ggL_law_L_copy : GoodIn wsL_law wsL_copy := goodIn_ca (goodIn_r _ [825, 225, 826, 827, 828, 2, 829, 726, 727, 728, 729, 230, 231, 700, 701, 702, 703, 27, 704, 705, 706, 26, 707, 83, 730, 731, 732, 88, 733, 612, 830, 831, 832, 833, 95, 613, 834, 346, 347, 58, 348, 349, 350, 351, 352, 258, 353, 255, 256, 257, 354, 355, 356, 357, 358, 359, 360, 361, 70, 263, 264, 265, 266, 708, 709, 710, 711, 645, 1304, 1305, 1306, 1307, 1308, 1342, 1343, 1344, 1345, 1346, 1347, 1348, 1366, 1367, 1368, 1369, 1360, 1361] (by decide +kernel) (by decide +kernel)) (goodIn_sub (fun _ h => List.mem_append_left _ (List.mem_append_right _ h)) (by decide +kernel))
set_option maxRecDepth 20000 in
theorem gL_law_L_copy : GoodIn wsL_law (va_wsS RL 219 yL_copy wsL_copy) := goodIn_app (goodIn_of _ (by decide +kernel)) ggL_law_L_copy
set_option maxRecDepth 20000 in
theorem ggL_law_X12_copy : GoodIn wsL_law wsX12_copy := goodIn_r _ [838, 174, 137, 40, 136, 413, 414, 415, 416, 742, 743, 744, 5, 745, 716, 717, 718, 175, 176, 177, 181, 182, 183, 184, 1309, 1310, 1311, 1312, 1313, 1314, 1315, 1316, 1317, 1318, 1319, 1320, 1321, 1322, 1323, 1324, 1325, 1326, 1327, 1328, 1329, 1330, 1331, 1332, 1333] (by decide +kernel) (by decide +kernel)
set_option maxRecDepth 20000 in
theorem gL_law_X12_copy : GoodIn wsL_law (wsV RL 221 RX12 yX12_copy wsX12_copy) := goodIn_app (goodIn_of _ (by decide +kernel)) ggL_law_X12_copy
set_option maxRecDepth 20000 in
theorem ggL_law_L_isSound : GoodIn wsL_law wsL_isSound := goodIn_ca (goodIn_r _ [841, 225, 842, 843, 844, 2, 845, 700, 701, 702, 703, 230, 231, 27, 704, 705, 706, 26, 707, 83, 846, 847, 848, 88, 849, 613, 95, 850, 851, 852, 853, 612, 645, 255, 256, 58, 257, 258, 757, 359, 360, 361, 70, 854, 855, 856, 857, 858, 859, 860, 861, 862, 863, 864, 865, 866, 867, 868, 869, 870, 871, 872, 873, 358, 874, 875, 876, 877, 614, 615, 639, 640, 641, 642, 96, 643, 644, 369, 370, 15, 371, 367, 41, 372, 1304, 1305, 1306, 1307, 1308, 1342, 1343, 1344, 1345, 1346, 1347, 1348, 1366, 1367, 1368, 1369, 1360, 1361, 1334] (by decide +kernel) (by decide +kernel)) (goodIn_sub (fun _ h => List.mem_append_left _ (List.mem_append_right _ h)) (by decide +kernel))
set_option maxRecDepth 20000 in
theorem gL_law_L_isSound : GoodIn wsL_law (va_wsS RL 222 yL_isSound wsL_isSound) := goodIn_app (goodIn_of _ (by decide +kernel)) ggL_law_L_isSound
set_option maxRecDepth 20000 in
theorem ggL_law_X12_isSound : GoodIn wsL_law wsX12_isSound := goodIn_r _ [881, 174, 716, 717, 5, 718, 175, 176, 177, 882, 883, 884, 885, 136, 137, 886, 887, 888, 683, 684, 685, 686, 687, 688, 503, 504, 505, 289, 506, 507, 508, 509, 510, 803, 804, 805, 806, 1309, 1310, 1311, 1312, 1313, 1314, 1315, 1316, 1317, 1318, 1319, 1320, 1321, 1322, 1323, 1324, 1325, 1326, 1327, 1328, 1329, 1330, 1331, 1332, 1333] (by decide +kernel) (by decide +kernel)
set_option maxRecDepth 20000 in
theorem gL_law_X12_isSound : GoodIn wsL_law (wsV RL 224 RX12 yX12_isSound wsX12_isSound) := goodIn_app (goodIn_of _ (by decide +kernel)) ggL_law_X12_isSound
set_option maxRecDepth 20000 in
theorem ggL_law_X11_leader : GoodIn wsL_law wsX11_leader := goodIn_r _ [892, 27, 893, 894, 895, 26, 896, 897, 898, 84, 85, 83, 899, 847, 848, 88, 849, 613, 95, 850, 851, 852, 853, 612, 645, 255, 256, 58, 257, 258, 757, 359, 360, 361, 70, 854, 855, 856, 857, 858, 859, 860, 861, 862, 863, 864, 865, 866, 867, 868, 869, 870, 871, 872, 873, 358, 874, 875, 876, 877, 614, 2, 615, 639, 640, 641, 642, 96, 643, 644, 369, 370, 15, 371, 367, 41, 372, 900, 901, 902, 903, 818, 705, 706, 707, 904, 905, 906, 907, 908, 1304, 1305, 1306, 1307, 1308, 1342, 1343, 1344, 1345, 1346, 1347, 1348, 1366, 1367, 1368, 1369, 1360, 1361, 1334] (by decide +kernel) (by decide +kernel)
set_option maxRecDepth 20000 in
theorem gL_law_X11_leader : GoodIn wsL_law (wsV RL 225 RX11 yX11_leader wsX11_leader) := goodIn_app (goodIn_of _ (by decide +kernel)) ggL_law_X11_leader
set_option maxRecDepth 20000 in
theorem ggL_law_X12_leader : GoodIn wsL_law wsX12_leader := goodIn_r _ [912, 913, 914, 915, 916, 5, 917, 918, 146, 147, 136, 882, 883, 884, 885, 137, 175, 176, 177, 886, 887, 888, 683, 684, 685, 686, 687, 688, 503, 504, 505, 289, 506, 507, 508, 509, 510, 442, 443, 444, 445, 174, 1309, 1310, 1311, 1312, 1313, 1314, 1315, 1316, 1317, 1318, 1319, 1320, 1321, 1322, 1323, 1324, 1325, 1326, 1327, 1328, 1329, 1330, 1331, 1332, 1333] (by decide +kernel) (by decide +kernel)
set_option maxRecDepth 20000 in
theorem gL_law_X12_leader : GoodIn wsL_law (wsV RL 228 RX12 yX12_leader wsX12_leader) := goodIn_app (goodIn_of _ (by decide +kernel)) ggL_law_X12_leader
set_option maxRecDepth 20000 in
theorem ggL_law_X11_present : GoodIn wsL_law wsX11_present := goodIn_r _ [922, 27, 893, 894, 895, 26, 896, 897, 898, 84, 85, 83, 899, 847, 848, 88, 849, 613, 95, 850, 851, 852, 853, 612, 645, 255, 256, 58, 257, 258, 757, 359, 360, 361, 70, 854, 855, 856, 857, 858, 859, 860, 861, 862, 863, 864, 865, 866, 867, 868, 869, 870, 871, 872, 873, 358, 874, 875, 876, 877, 614, 2, 615, 639, 640, 641, 642, 96, 643, 644, 369, 370, 15, 371, 367, 41, 372, 900, 901, 902, 903, 818, 705, 706, 707, 904, 905, 906, 907, 908, 1304, 1305, 1306, 1307, 1308, 1342, 1343, 1344, 1345, 1346, 1347, 1348, 1366, 1367, 1368, 1369, 1360, 1361, 1334] (by decide +kernel) (by decide +kernel)
set_option maxRecDepth 20000 in
theorem gL_law_X11_present : GoodIn wsL_law (wsV RL 229 RX11 yX11_present wsX11_present) := goodIn_app (goodIn_of _ (by decide +kernel)) ggL_law_X11_present
set_option maxRecDepth 20000 in
theorem ggL_law_X12_present : GoodIn wsL_law wsX12_present := goodIn_r _ [926, 918, 914, 915, 916, 5, 917, 913, 146, 147, 136, 882, 883, 884, 885, 137, 175, 176, 177, 886, 887, 888, 683, 684, 685, 686, 687, 688, 503, 504, 505, 289, 506, 507, 508, 509, 510, 442, 443, 444, 445, 174, 1309, 1310, 1311, 1312, 1313, 1314, 1315, 1316, 1317, 1318, 1319, 1320, 1321, 1322, 1323, 1324, 1325, 1326, 1327, 1328, 1329, 1330, 1331, 1332, 1333] (by decide +kernel) (by decide +kernel)
set_option maxRecDepth 20000 in
theorem gL_law_X12_present : GoodIn wsL_law (wsV RL 232 RX12 yX12_present wsX12_present) := goodIn_app (goodIn_of _ (by decide +kernel)) ggL_law_X12_present
set_option maxRecDepth 20000 in
theorem ggL_law_L_numberOf : GoodIn wsL_law wsL_numberOf := goodIn_ca (goodIn_r _ [929, 225, 930, 931, 932, 2, 933, 27, 700, 701, 702, 703, 230, 231, 704, 705, 706, 26, 707, 83, 893, 894, 895, 896, 897, 898, 84, 85, 899, 847, 848, 88, 849, 613, 95, 850, 851, 852, 853, 612, 645, 255, 256, 58, 257, 258, 757, 359, 360, 361, 70, 854, 855, 856, 857, 858, 859, 860, 861, 862, 863, 864, 865, 866, 867, 868, 869, 870, 871, 872, 873, 358, 874, 875, 876, 877, 614, 615, 639, 640, 641, 642, 96, 643, 644, 369, 370, 15, 371, 367, 41, 372, 900, 901, 902, 903, 818, 904, 905, 906, 907, 908, 934, 935, 936, 937, 1304, 1305, 1306, 1307, 1308, 1342, 1343, 1344, 1345, 1346, 1347, 1348, 1366, 1367, 1368, 1369, 1360, 1361, 1334] (by decide +kernel) (by decide +kernel)) (goodIn_sub (fun _ h => List.mem_append_left _ (List.mem_append_right _ h)) (by decide +kernel))
set_option maxRecDepth 20000 in
theorem gL_law_L_numberOf : GoodIn wsL_law (va_wsS RL 233 yL_numberOf wsL_numberOf) := goodIn_app (goodIn_of _ (by decide +kernel)) ggL_law_L_numberOf
