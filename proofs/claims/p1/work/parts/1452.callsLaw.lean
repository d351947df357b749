set_option maxRecDepth 20000 in
theorem ggL_law_L_packedLength : GoodIn wsL_law wsL_packedLength := goodIn_ca (goodIn_r _ [513, 225, 514, 515, 516, 2, 517, 453, 454, 455, 456, 230, 231, 23, 457, 327, 328, 22, 329, 317, 62, 254, 255, 256, 58, 257, 258, 1362, 1363, 1364, 1365, 1304, 1305, 1306, 1307, 1308, 1337, 1338, 1339, 1340, 1341, 1360, 1361] (by decide +kernel) (by decide +kernel)) (goodIn_sub (fun _ h => List.mem_append_left _ (List.mem_append_right _ h)) (by decide +kernel))
set_option maxRecDepth 20000 in
theorem gL_law_L_packedLength : GoodIn wsL_law (va_wsS RL 184 yL_packedLength wsL_packedLength) := goodIn_app (goodIn_of _ (by decide +kernel)) ggL_law_L_packedLength
set_option maxRecDepth 20000 in
theorem ggL_law_X12_packedLength : GoodIn wsL_law wsX12_packedLength := goodIn_r _ [521, 174, 134, 132, 462, 463, 464, 5, 465, 404, 175, 176, 177, 522, 523, 524, 525, 143, 526, 527, 528, 181, 182, 183, 184, 1309, 1310, 1311, 1312, 1313, 1314, 1315, 1316, 1317, 1318, 1319, 1320, 1321, 1322, 1323, 1324, 1325, 1326, 1327, 1328, 1329, 1330, 1331, 1332, 1333] (by decide +kernel) (by decide +kernel)
set_option maxRecDepth 20000 in
theorem gL_law_X12_packedLength : GoodIn wsL_law (wsV RL 186 RX12 yX12_packedLength wsX12_packedLength) := goodIn_app (goodIn_of _ (by decide +kernel)) ggL_law_X12_packedLength
set_option maxRecDepth 20000 in
theorem ggL_law_L_packedAt : GoodIn wsL_law wsL_packedAt := goodIn_ca (goodIn_r _ [531, 225, 532, 533, 534, 2, 535, 453, 454, 455, 456, 230, 231, 23, 457, 327, 328, 22, 329, 317, 62, 484, 485, 486, 254, 255, 256, 58, 257, 258, 487, 359, 360, 361, 70, 1362, 1363, 1364, 1365, 1304, 1305, 1306, 1307, 1308, 1337, 1338, 1339, 1340, 1341, 1360, 1361] (by decide +kernel) (by decide +kernel)) (goodIn_sub (fun _ h => List.mem_append_left _ (List.mem_append_right _ h)) (by decide +kernel))
set_option maxRecDepth 20000 in
theorem gL_law_L_packedAt : GoodIn wsL_law (va_wsS RL 187 yL_packedAt wsL_packedAt) := goodIn_app (goodIn_of _ (by decide +kernel)) ggL_law_L_packedAt
set_option maxRecDepth 20000 in
theorem ggL_law_X12_packedAt : GoodIn wsL_law wsX12_packedAt := goodIn_r _ [539, 174, 134, 132, 143, 462, 463, 464, 5, 465, 404, 175, 176, 177, 522, 523, 524, 525, 526, 527, 528, 181, 182, 183, 184, 1309, 1310, 1311, 1312, 1313, 1314, 1315, 1316, 1317, 1318, 1319, 1320, 1321, 1322, 1323, 1324, 1325, 1326, 1327, 1328, 1329, 1330, 1331, 1332, 1333] (by decide +kernel) (by decide +kernel)
set_option maxRecDepth 20000 in
theorem gL_law_X12_packedAt : GoodIn wsL_law (wsV RL 189 RX12 yX12_packedAt wsX12_packedAt) := goodIn_app (goodIn_of _ (by decide +kernel)) ggL_law_X12_packedAt
set_option maxRecDepth 20000 in
theorem ggL_law_X11_streamLength : GoodIn wsL_law wsX11_streamLength := goodIn_r _ [543, 23, 544, 545, 546, 22, 547, 317, 326, 327, 328, 329, 62, 548, 549, 550, 65, 551, 76, 75, 552, 553, 554, 555, 362, 255, 256, 58, 257, 258, 1304, 1305, 1306, 1307, 1308, 1337, 1338, 1339, 1340, 1341, 1362, 1363, 1364, 1365, 1360, 1361] (by decide +kernel) (by decide +kernel)
set_option maxRecDepth 20000 in
theorem gL_law_X11_streamLength : GoodIn wsL_law (wsV RL 190 RX11 yX11_streamLength wsX11_streamLength) := goodIn_app (goodIn_of _ (by decide +kernel)) ggL_law_X11_streamLength
set_option maxRecDepth 20000 in
theorem ggL_law_X12_streamLength : GoodIn wsL_law wsX12_streamLength := goodIn_r _ [559, 560, 561, 562, 5, 563, 404, 132, 134, 564, 387, 388, 389, 522, 523, 524, 525, 143, 526, 527, 528, 442, 443, 444, 445, 174, 1309, 1310, 1311, 1312, 1313, 1314, 1315, 1316, 1317, 1318, 1319, 1320, 1321, 1322, 1323, 1324, 1325, 1326, 1327, 1328, 1329, 1330, 1331, 1332, 1333] (by decide +kernel) (by decide +kernel)
set_option maxRecDepth 20000 in
theorem gL_law_X12_streamLength : GoodIn wsL_law (wsV RL 193 RX12 yX12_streamLength wsX12_streamLength) := goodIn_app (goodIn_of _ (by decide +kernel)) ggL_law_X12_streamLength
set_option maxRecDepth 20000 in
theorem ggL_law_L_build : GoodIn wsL_law wsL_build := goodIn_ca (goodIn_r _ [567, 152, 568, 569, 570, 2, 571, 157, 158, 35, 23, 27, 572, 573, 574, 34, 575, 576, 577, 578, 579, 22, 580, 60, 317, 63, 581, 350, 351, 58, 352, 258, 326, 327, 328, 329, 62, 582, 583, 584, 65, 585, 76, 75, 343, 344, 552, 553, 554, 555, 362, 255, 256, 257, 586, 264, 265, 266, 70, 587, 588, 589, 590, 263, 591, 355, 356, 357, 358, 359, 360, 361, 429, 592, 593, 594, 595, 596, 548, 549, 550, 551, 597, 364, 365, 15, 366, 367, 368, 369, 370, 371, 41, 372, 598, 599, 600, 601, 26, 602, 83, 89, 603, 604, 605, 606, 86, 607, 608, 609, 610, 88, 611, 612, 613, 95, 614, 615, 616, 617, 618, 619, 260, 261, 262, 620, 621, 622, 18, 623, 624, 233, 234, 235, 236, 197, 198, 199, 51, 166, 167, 168, 169, 50, 625, 626, 627, 628, 629, 630, 163, 164, 165, 631, 632, 633, 634, 635, 636, 637, 638, 639, 640, 641, 642, 96, 643, 644, 645, 646, 647, 648, 649, 650, 651, 652, 653, 654, 655, 656, 657, 658, 659, 660, 661, 662, 353, 254, 663, 1304, 1305, 1306, 1307, 1308, 1352, 1353, 1354, 1355, 1356, 1357, 1358, 1359, 1337, 1338, 1339, 1340, 1341, 1360, 1361, 1362, 1363, 1364, 1365, 1334, 1342, 1343, 1344, 1345, 1346, 1347, 1348, 1366, 1367, 1368, 1369, 1335, 1336] (by decide +kernel) (by decide +kernel)) (goodIn_sub (fun _ h => List.mem_append_left _ (List.mem_append_left _ (List.mem_append_right _ h))) (by decide +kernel))
set_option maxRecDepth 20000 in
theorem gL_law_L_build : GoodIn wsL_law (va_wsS RL 194 yL_build wsL_build) := goodIn_app (goodIn_of _ (by decide +kernel)) ggL_law_L_build
set_option maxRecDepth 20000 in
theorem ggL_law_X12_build : GoodIn wsL_law wsX12_build := goodIn_r _ [667, 174, 668, 175, 176, 5, 177, 181, 182, 183, 184, 669, 670, 671, 672, 40, 404, 134, 132, 131, 143, 413, 414, 415, 416, 560, 561, 562, 563, 564, 387, 388, 389, 522, 523, 524, 525, 526, 527, 528, 673, 674, 675, 503, 504, 505, 289, 506, 507, 508, 509, 510, 676, 677, 678, 679, 137, 136, 680, 681, 682, 683, 684, 685, 241, 242, 243, 204, 205, 206, 178, 179, 180, 686, 687, 688, 689, 690, 691, 692, 1309, 1310, 1311, 1312, 1313, 1314, 1315, 1316, 1317, 1318, 1319, 1320, 1321, 1322, 1323, 1324, 1325, 1326, 1327, 1328, 1329, 1330, 1331, 1332, 1333] (by decide +kernel) (by decide +kernel)
set_option maxRecDepth 20000 in
theorem gL_law_X12_build : GoodIn wsL_law (wsV RL 196 RX12 yX12_build wsX12_build) := goodIn_app (goodIn_of _ (by decide +kernel)) ggL_law_X12_build
set_option maxRecDepth 20000 in
theorem ggL_law_L_sizeOf : GoodIn wsL_law wsL_sizeOf := goodIn_ca (goodIn_r _ [695, 225, 696, 697, 698, 2, 699, 700, 701, 702, 703, 230, 231, 27, 704, 705, 706, 26, 707, 83, 708, 709, 710, 88, 711, 612, 95, 645, 255, 256, 58, 257, 258, 1304, 1305, 1306, 1307, 1308, 1342, 1343, 1344, 1345, 1346, 1347, 1348, 1366, 1367, 1368, 1369, 1360, 1361] (by decide +kernel) (by decide +kernel)) (goodIn_sub (fun _ h => List.mem_append_left _ (List.mem_append_right _ h)) (by decide +kernel))
set_option maxRecDepth 20000 in
theorem gL_law_L_sizeOf : GoodIn wsL_law (va_wsS RL 197 yL_sizeOf wsL_sizeOf) := goodIn_app (goodIn_of _ (by decide +kernel)) ggL_law_L_sizeOf
set_option maxRecDepth 20000 in
theorem ggL_law_X12_sizeOf : GoodIn wsL_law wsX12_sizeOf := goodIn_r _ [715, 174, 137, 716, 717, 5, 718, 175, 176, 177, 181, 182, 183, 184, 1309, 1310, 1311, 1312, 1313, 1314, 1315, 1316, 1317, 1318, 1319, 1320, 1321, 1322, 1323, 1324, 1325, 1326, 1327, 1328, 1329, 1330, 1331, 1332, 1333] (by decide +kernel) (by decide +kernel)
set_option maxRecDepth 20000 in
theorem gL_law_X12_sizeOf : GoodIn wsL_law (wsV RL 199 RX12 yX12_sizeOf wsX12_sizeOf) := goodIn_app (goodIn_of _ (by decide +kernel)) ggL_law_X12_sizeOf
set_option maxRecDepth 20000 in
theorem ggL_law_L_byteAt : GoodIn wsL_law wsL_byteAt := goodIn_ca (goodIn_r _ [721, 225, 722, 723, 724, 2, 725, 726, 727, 728, 729, 230, 231, 700, 701, 702, 703, 27, 704, 705, 706, 26, 707, 83, 730, 731, 732, 88, 733, 612, 484, 485, 486, 254, 255, 256, 58, 257, 258, 487, 359, 360, 361, 70, 1366, 1367, 1368, 1369, 1304, 1305, 1306, 1307, 1308, 1342, 1343, 1344, 1345, 1346, 1347, 1348, 1360, 1361] (by decide +kernel) (by decide +kernel)) (goodIn_sub (fun _ h => List.mem_append_left _ (List.mem_append_right _ h)) (by decide +kernel))
set_option maxRecDepth 20000 in
theorem gL_law_L_byteAt : GoodIn wsL_law (va_wsS RL 200 yL_byteAt wsL_byteAt) := goodIn_app (goodIn_of _ (by decide +kernel)) ggL_law_L_byteAt
set_option maxRecDepth 20000 in
theorem ggL_law_X12_byteAt : GoodIn wsL_law wsX12_byteAt := goodIn_r _ [737, 174, 136, 738, 739, 740, 5, 741, 137, 742, 743, 744, 745, 716, 717, 718, 175, 176, 177, 181, 182, 183, 184, 1309, 1310, 1311, 1312, 1313, 1314, 1315, 1316, 1317, 1318, 1319, 1320, 1321, 1322, 1323, 1324, 1325, 1326, 1327, 1328, 1329, 1330, 1331, 1332, 1333] (by decide +kernel) (by decide +kernel)
set_option maxRecDepth 20000 in
theorem gL_law_X12_byteAt : GoodIn wsL_law (wsV RL 202 RX12 yX12_byteAt wsX12_byteAt) := goodIn_app (goodIn_of _ (by decide +kernel)) ggL_law_X12_byteAt
set_option maxRecDepth 20000 in
theorem ggL_law_L_spoil : GoodIn wsL_law wsL_spoil := goodIn_ca (goodIn_ca (goodIn_r _ [748, 225, 152, 749, 750, 751, 2, 752, 230, 231, 157, 158, 726, 727, 728, 729, 700, 701, 702, 703, 27, 704, 705, 706, 26, 707, 83, 730, 731, 732, 88, 733, 612, 708, 709, 710, 711, 95, 645, 255, 256, 58, 257, 258, 159, 160, 161, 753, 754, 755, 756, 613, 757, 359, 360, 361, 70, 758, 632, 633, 634, 1304, 1305, 1306, 1307, 1308, 1342, 1343, 1344, 1345, 1346, 1347, 1348, 1366, 1367, 1368, 1369, 1360, 1361] (by decide +kernel) (by decide +kernel)) (goodIn_sub (fun _ h => List.mem_append_left _ (List.mem_append_right _ h)) (by decide +kernel))) (goodIn_sub (fun _ h => List.mem_append_left _ (List.mem_append_left _ (List.mem_append_right _ h))) (by decide +kernel))
set_option maxRecDepth 20000 in
theorem gL_law_L_spoil : GoodIn wsL_law (va_wsS RL 203 yL_spoil wsL_spoil) := goodIn_app (goodIn_of _ (by decide +kernel)) ggL_law_L_spoil
set_option maxRecDepth 20000 in
theorem ggL_law_X12_spoil : GoodIn wsL_law wsX12_spoil := goodIn_r _ [762, 174, 136, 738, 739, 740, 5, 741, 137, 742, 743, 744, 745, 716, 717, 718, 175, 176, 177, 181, 182, 183, 184, 1309, 1310, 1311, 1312, 1313, 1314, 1315, 1316, 1317, 1318, 1319, 1320, 1321, 1322, 1323, 1324, 1325, 1326, 1327, 1328, 1329, 1330, 1331, 1332, 1333] (by decide +kernel) (by decide +kernel)
set_option maxRecDepth 20000 in
theorem gL_law_X12_spoil : GoodIn wsL_law (wsV RL 206 RX12 yX12_spoil wsX12_spoil) := goodIn_app (goodIn_of _ (by decide +kernel)) ggL_law_X12_spoil
set_option maxRecDepth 20000 in
theorem ggL_law_L_sign : GoodIn wsL_law wsL_sign := goodIn_ca (goodIn_ca (goodIn_r _ [765, 225, 247, 766, 767, 768, 2, 769, 252, 253, 726, 727, 728, 729, 230, 231, 700, 701, 702, 703, 27, 704, 705, 706, 26, 707, 83, 730, 731, 732, 88, 733, 612, 708, 709, 710, 711, 95, 645, 255, 256, 58, 257, 258, 770, 636, 637, 638, 613, 639, 640, 641, 642, 96, 643, 644, 369, 370, 15, 371, 367, 41, 372, 359, 360, 361, 70, 646, 647, 648, 649, 650, 632, 633, 634, 1304, 1305, 1306, 1307, 1308, 1342, 1343, 1344, 1345, 1346, 1347, 1348, 1366, 1367, 1368, 1369, 1360, 1361, 1334] (by decide +kernel) (by decide +kernel)) (goodIn_sub (fun _ h => List.mem_append_right _ h) (by decide +kernel))) (goodIn_sub (fun _ h => List.mem_append_left _ (List.mem_append_right _ h)) (by decide +kernel))
set_option maxRecDepth 20000 in
theorem gL_law_L_sign : GoodIn wsL_law (va_wsS RL 207 yL_sign wsL_sign) := goodIn_app (goodIn_of _ (by decide +kernel)) ggL_law_L_sign
