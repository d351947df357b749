set_option maxRecDepth 20000 in
theorem ggL_law_X12_numberOf : GoodIn wsL_law wsX12_numberOf := goodIn_r _ [941, 174, 147, 716, 717, 5, 718, 175, 176, 177, 181, 182, 183, 184, 914, 915, 916, 917, 913, 918, 146, 136, 882, 883, 884, 885, 137, 886, 887, 888, 683, 684, 685, 686, 687, 688, 503, 504, 505, 289, 506, 507, 508, 509, 510, 1309, 1310, 1311, 1312, 1313, 1314, 1315, 1316, 1317, 1318, 1319, 1320, 1321, 1322, 1323, 1324, 1325, 1326, 1327, 1328, 1329, 1330, 1331, 1332, 1333] (by decide +kernel) (by decide +kernel)
set_option maxRecDepth 20000 in
theorem gL_law_X12_numberOf : GoodIn wsL_law (wsV RL 235 RX12 yX12_numberOf wsX12_numberOf) := goodIn_app (goodIn_of _ (by decide +kernel)) ggL_law_X12_numberOf
set_option maxRecDepth 20000 in
theorem ggL_law_X11_spare : GoodIn wsL_law wsX11_spare := goodIn_r _ [945, 27, 893, 894, 895, 26, 896, 897, 898, 84, 85, 83, 899, 847, 848, 88, 849, 613, 95, 850, 851, 852, 853, 612, 645, 255, 256, 58, 257, 258, 757, 359, 360, 361, 70, 854, 855, 856, 857, 858, 859, 860, 861, 862, 863, 864, 865, 866, 867, 868, 869, 870, 871, 872, 873, 358, 874, 875, 876, 877, 614, 2, 615, 639, 640, 641, 642, 96, 643, 644, 369, 370, 15, 371, 367, 41, 372, 900, 901, 902, 903, 818, 705, 706, 707, 904, 905, 906, 907, 908, 946, 947, 948, 949, 950, 951, 388, 952, 953, 1304, 1305, 1306, 1307, 1308, 1342, 1343, 1344, 1345, 1346, 1347, 1348, 1366, 1367, 1368, 1369, 1360, 1361, 1334] (by decide +kernel) (by decide +kernel)
set_option maxRecDepth 20000 in
theorem gL_law_X11_spare : GoodIn wsL_law (wsV RL 236 RX11 yX11_spare wsX11_spare) := goodIn_app (goodIn_of _ (by decide +kernel)) ggL_law_X11_spare
set_option maxRecDepth 20000 in
theorem ggL_law_X12_spare : GoodIn wsL_law wsX12_spare := goodIn_r _ [957, 914, 915, 916, 5, 917, 913, 918, 146, 147, 136, 882, 883, 884, 885, 137, 175, 176, 177, 886, 887, 888, 683, 684, 685, 686, 687, 688, 503, 504, 505, 289, 506, 507, 508, 509, 510, 958, 959, 960, 961, 442, 443, 444, 445, 174, 1309, 1310, 1311, 1312, 1313, 1314, 1315, 1316, 1317, 1318, 1319, 1320, 1321, 1322, 1323, 1324, 1325, 1326, 1327, 1328, 1329, 1330, 1331, 1332, 1333] (by decide +kernel) (by decide +kernel)
set_option maxRecDepth 20000 in
theorem gL_law_X12_spare : GoodIn wsL_law (wsV RL 239 RX12 yX12_spare wsX12_spare) := goodIn_app (goodIn_of _ (by decide +kernel)) ggL_law_X12_spare
set_option maxRecDepth 20000 in
theorem ggL_law_L_repair : GoodIn wsL_law wsL_repair := goodIn_ca (goodIn_r _ [964, 247, 965, 966, 967, 2, 968, 27, 35, 969, 970, 971, 972, 252, 253, 599, 600, 601, 26, 602, 83, 89, 603, 604, 605, 606, 86, 607, 255, 256, 58, 257, 258, 608, 609, 610, 88, 611, 612, 613, 95, 614, 615, 616, 350, 351, 352, 617, 264, 265, 266, 70, 618, 588, 589, 590, 263, 619, 260, 261, 262, 620, 621, 622, 18, 623, 624, 233, 234, 235, 236, 197, 198, 199, 51, 166, 167, 168, 169, 50, 625, 626, 627, 628, 629, 359, 360, 361, 630, 163, 164, 165, 631, 632, 633, 634, 635, 636, 637, 638, 639, 640, 641, 642, 96, 643, 644, 369, 370, 15, 371, 367, 41, 372, 645, 646, 647, 648, 649, 650, 651, 652, 653, 654, 655, 656, 657, 658, 659, 660, 661, 662, 353, 358, 1304, 1305, 1306, 1307, 1308, 1352, 1353, 1354, 1355, 1356, 1357, 1358, 1359, 1342, 1343, 1344, 1345, 1346, 1347, 1348, 1366, 1367, 1368, 1369, 1360, 1361, 1335, 1336, 1334] (by decide +kernel) (by decide +kernel)) (goodIn_sub (fun _ h => List.mem_append_right _ h) (by decide +kernel))
set_option maxRecDepth 20000 in
theorem gL_law_L_repair : GoodIn wsL_law (va_wsS RL 240 yL_repair wsL_repair) := goodIn_app (goodIn_of _ (by decide +kernel)) ggL_law_L_repair
set_option maxRecDepth 20000 in
theorem ggL_law_X12_repair : GoodIn wsL_law wsX12_repair := goodIn_r _ [976, 174, 668, 138, 977, 978, 676, 677, 678, 5, 679, 137, 136, 680, 681, 682, 40, 683, 684, 685, 673, 674, 675, 241, 242, 243, 204, 205, 206, 178, 179, 180, 686, 687, 688, 503, 504, 505, 289, 506, 507, 508, 509, 510, 689, 690, 691, 692, 181, 182, 183, 184, 1309, 1310, 1311, 1312, 1313, 1314, 1315, 1316, 1317, 1318, 1319, 1320, 1321, 1322, 1323, 1324, 1325, 1326, 1327, 1328, 1329, 1330, 1331, 1332, 1333] (by decide +kernel) (by decide +kernel)
set_option maxRecDepth 20000 in
theorem gL_law_X12_repair : GoodIn wsL_law (wsV RL 243 RX12 yX12_repair wsX12_repair) := goodIn_app (goodIn_of _ (by decide +kernel)) ggL_law_X12_repair
set_option maxRecDepth 20000 in
theorem ggL_law_X11_open : GoodIn wsL_law wsX11_open := goodIn_r _ [982, 35, 27, 31, 572, 573, 574, 34, 575, 576, 893, 894, 895, 26, 896, 897, 898, 84, 85, 83, 899, 847, 848, 88, 849, 613, 95, 850, 851, 852, 853, 612, 645, 255, 256, 58, 257, 258, 757, 359, 360, 361, 70, 854, 855, 856, 857, 858, 859, 860, 861, 862, 863, 864, 865, 866, 867, 868, 869, 870, 871, 872, 873, 358, 874, 875, 876, 877, 614, 2, 615, 639, 640, 641, 642, 96, 643, 644, 369, 370, 15, 371, 367, 41, 372, 900, 901, 902, 903, 818, 705, 706, 707, 904, 905, 906, 907, 908, 704, 946, 947, 948, 949, 950, 951, 388, 952, 953, 983, 984, 985, 30, 986, 987, 387, 389, 988, 989, 990, 991, 992, 993, 104, 994, 995, 996, 997, 998, 999, 1000, 1001, 103, 105, 1002, 350, 351, 352, 1003, 260, 261, 262, 263, 264, 265, 266, 1004, 621, 622, 18, 623, 624, 233, 234, 235, 236, 197, 198, 199, 51, 166, 167, 168, 169, 50, 1005, 632, 633, 634, 1006, 1007, 1008, 1009, 1010, 1011, 1012, 1013, 1014, 1015, 1016, 163, 164, 165, 1017, 626, 627, 628, 629, 630, 631, 1018, 355, 356, 357, 1019, 1020, 1021, 1022, 1023, 1024, 1025, 299, 300, 301, 1026, 1027, 1028, 1029, 1030, 1031, 1032, 1033, 1034, 1035, 1036, 1037, 1038, 1039, 113, 116, 1040, 1041, 1042, 1043, 1044, 1045, 1046, 1047, 364, 365, 366, 368, 1048, 1049, 1050, 1051, 115, 1052, 1053, 1054, 1055, 1056, 1057, 1058, 1059, 1060, 1061, 1062, 1063, 1064, 1065, 1066, 1067, 1068, 1069, 1070, 1071, 1072, 1073, 1074, 1075, 1076, 1077, 1078, 1079, 1080, 1081, 1082, 375, 1083, 377, 382, 378, 1084, 394, 1085, 1086, 1304, 1305, 1306, 1307, 1308, 1342, 1343, 1344, 1345, 1346, 1347, 1348, 1352, 1353, 1354, 1355, 1356, 1357, 1358, 1359, 1366, 1367, 1368, 1369, 1360, 1361, 1334, 1349, 1350, 1351, 1335, 1336, 1370, 1371, 1372, 1373, 1374] (by decide +kernel) (by decide +kernel)
set_option maxRecDepth 20000 in
theorem gL_law_X11_open : GoodIn wsL_law (wsV RL 244 RX11 yX11_open wsX11_open) := goodIn_app (goodIn_of _ (by decide +kernel)) ggL_law_X11_open
set_option maxRecDepth 20000 in
theorem ggL_law_X12_open : GoodIn wsL_law wsX12_open := goodIn_r _ [1090, 174, 668, 136, 913, 135, 40, 413, 414, 415, 416, 977, 978, 138, 914, 915, 916, 5, 917, 918, 146, 147, 882, 883, 884, 885, 137, 175, 176, 177, 886, 887, 888, 683, 684, 685, 686, 687, 688, 503, 504, 505, 289, 506, 507, 508, 509, 510, 958, 959, 960, 961, 1091, 1092, 1093, 1094, 1095, 1096, 1097, 1098, 133, 241, 242, 243, 204, 205, 206, 178, 179, 180, 1099, 1100, 1101, 1102, 1103, 1104, 1105, 1106, 1107, 1108, 1109, 1110, 1111, 1112, 1113, 1114, 1115, 1116, 1117, 1118, 1119, 1120, 1121, 139, 140, 141, 142, 1122, 1123, 1124, 1125, 144, 1126, 1127, 1128, 1129, 1130, 1131, 1132, 1133, 1309, 1310, 1311, 1312, 1313, 1314, 1315, 1316, 1317, 1318, 1319, 1320, 1321, 1322, 1323, 1324, 1325, 1326, 1327, 1328, 1329, 1330, 1331, 1332, 1333] (by decide +kernel) (by decide +kernel)
set_option maxRecDepth 20000 in
theorem gL_law_X12_open : GoodIn wsL_law (wsV RL 247 RX12 yX12_open wsX12_open) := goodIn_app (goodIn_of _ (by decide +kernel)) ggL_law_X12_open
set_option maxRecDepth 20000 in
theorem ggL_law_L_opened : GoodIn wsL_law wsL_opened := goodIn_ca (goodIn_r _ [1136, 247, 1137, 1138, 1139, 2, 1140, 35, 969, 970, 971, 972, 252, 253, 254, 255, 256, 58, 257, 258, 1304, 1305, 1306, 1307, 1308, 1352, 1353, 1354, 1355, 1356, 1357, 1358, 1359, 1360, 1361] (by decide +kernel) (by decide +kernel)) (goodIn_sub (fun _ h => List.mem_append_right _ h) (by decide +kernel))
set_option maxRecDepth 20000 in
theorem gL_law_L_opened : GoodIn wsL_law (va_wsS RL 248 yL_opened wsL_opened) := goodIn_app (goodIn_of _ (by decide +kernel)) ggL_law_L_opened
set_option maxRecDepth 20000 in
theorem ggL_law_X12_opened : GoodIn wsL_law wsX12_opened := goodIn_r _ [1144, 174, 668, 138, 181, 182, 183, 5, 184, 1309, 1310, 1311, 1312, 1313, 1314, 1315, 1316, 1317, 1318, 1319, 1320, 1321, 1322, 1323, 1324, 1325, 1326, 1327, 1328, 1329, 1330, 1331, 1332, 1333] (by decide +kernel) (by decide +kernel)
set_option maxRecDepth 20000 in
theorem gL_law_X12_opened : GoodIn wsL_law (wsV RL 250 RX12 yX12_opened wsX12_opened) := goodIn_app (goodIn_of _ (by decide +kernel)) ggL_law_X12_opened
set_option maxRecDepth 20000 in
theorem ggL_law_L_streamAt : GoodIn wsL_law wsL_streamAt := goodIn_ca (goodIn_ca (goodIn_r _ [1147, 247, 225, 1148, 1149, 1150, 2, 1151, 35, 969, 970, 971, 972, 252, 253, 484, 485, 486, 230, 231, 254, 255, 256, 58, 257, 258, 487, 359, 360, 361, 70, 1304, 1305, 1306, 1307, 1308, 1352, 1353, 1354, 1355, 1356, 1357, 1358, 1359, 1360, 1361] (by decide +kernel) (by decide +kernel)) (goodIn_sub (fun _ h => List.mem_append_right _ h) (by decide +kernel))) (goodIn_sub (fun _ h => List.mem_append_left _ (List.mem_append_right _ h)) (by decide +kernel))
set_option maxRecDepth 20000 in
theorem gL_law_L_streamAt : GoodIn wsL_law (va_wsS RL 251 yL_streamAt wsL_streamAt) := goodIn_app (goodIn_of _ (by decide +kernel)) ggL_law_L_streamAt
set_option maxRecDepth 20000 in
theorem ggL_law_X12_streamAt : GoodIn wsL_law wsX12_streamAt := goodIn_r _ [1155, 174, 668, 138, 181, 182, 183, 5, 184, 175, 176, 177, 1309, 1310, 1311, 1312, 1313, 1314, 1315, 1316, 1317, 1318, 1319, 1320, 1321, 1322, 1323, 1324, 1325, 1326, 1327, 1328, 1329, 1330, 1331, 1332, 1333] (by decide +kernel) (by decide +kernel)
set_option maxRecDepth 20000 in
theorem gL_law_X12_streamAt : GoodIn wsL_law (wsV RL 253 RX12 yX12_streamAt wsX12_streamAt) := goodIn_app (goodIn_of _ (by decide +kernel)) ggL_law_X12_streamAt
set_option maxRecDepth 20000 in
theorem ggL_law_L_hasIndex : GoodIn wsL_law wsL_hasIndex := goodIn_ca (goodIn_r _ [1158, 247, 1159, 1160, 1161, 2, 1162, 35, 969, 970, 971, 972, 252, 253, 1304, 1305, 1306, 1307, 1308, 1352, 1353, 1354, 1355, 1356, 1357, 1358, 1359] (by decide +kernel) (by decide +kernel)) (goodIn_sub (fun _ h => List.mem_append_right _ h) (by decide +kernel))
set_option maxRecDepth 20000 in
theorem gL_law_L_hasIndex : GoodIn wsL_law (va_wsS RL 254 yL_hasIndex wsL_hasIndex) := goodIn_app (goodIn_of _ (by decide +kernel)) ggL_law_L_hasIndex
set_option maxRecDepth 20000 in
theorem ggL_law_X12_hasIndex : GoodIn wsL_law wsX12_hasIndex := goodIn_r _ [1166, 174, 668, 1112, 803, 804, 805, 5, 806, 1309, 1310, 1311, 1312, 1313, 1314, 1315, 1316, 1317, 1318, 1319, 1320, 1321, 1322, 1323, 1324, 1325, 1326, 1327, 1328, 1329, 1330, 1331, 1332, 1333] (by decide +kernel) (by decide +kernel)
set_option maxRecDepth 20000 in
theorem gL_law_X12_hasIndex : GoodIn wsL_law (wsV RL 256 RX12 yX12_hasIndex wsX12_hasIndex) := goodIn_app (goodIn_of _ (by decide +kernel)) ggL_law_X12_hasIndex
set_option maxRecDepth 20000 in
theorem ggL_law_L_found : GoodIn wsL_law wsL_found := goodIn_ca (goodIn_r _ [1169, 247, 1170, 1171, 1172, 2, 1173, 35, 969, 970, 971, 972, 252, 253, 1304, 1305, 1306, 1307, 1308, 1352, 1353, 1354, 1355, 1356, 1357, 1358, 1359] (by decide +kernel) (by decide +kernel)) (goodIn_sub (fun _ h => List.mem_append_right _ h) (by decide +kernel))
set_option maxRecDepth 20000 in
theorem gL_law_L_found : GoodIn wsL_law (va_wsS RL 257 yL_found wsL_found) := goodIn_app (goodIn_of _ (by decide +kernel)) ggL_law_L_found
set_option maxRecDepth 20000 in
theorem ggL_law_X12_found : GoodIn wsL_law wsX12_found := goodIn_r _ [1177, 174, 668, 1113, 181, 182, 183, 5, 184, 1309, 1310, 1311, 1312, 1313, 1314, 1315, 1316, 1317, 1318, 1319, 1320, 1321, 1322, 1323, 1324, 1325, 1326, 1327, 1328, 1329, 1330, 1331, 1332, 1333] (by decide +kernel) (by decide +kernel)
set_option maxRecDepth 20000 in
theorem gL_law_X12_found : GoodIn wsL_law (wsV RL 259 RX12 yX12_found wsX12_found) := goodIn_app (goodIn_of _ (by decide +kernel)) ggL_law_X12_found
