set_option maxRecDepth 20000 in
theorem ggL_law_L_cutSheet : GoodIn wsL_law wsL_cutSheet := goodIn_ca (goodIn_r _ [293, 152, 294, 295, 296, 2, 297, 157, 158, 23, 254, 255, 256, 58, 257, 258, 298, 299, 300, 301, 1304, 1305, 1306, 1307, 1308, 1337, 1338, 1339, 1340, 1341, 1360, 1361] (by decide +kernel) (by decide +kernel)) (goodIn_sub (fun _ h => List.mem_append_left _ (List.mem_append_left _ (List.mem_append_right _ h))) (by decide +kernel))
set_option maxRecDepth 20000 in
theorem gL_law_L_cutSheet : GoodIn wsL_law (va_wsS RL 158 yL_cutSheet wsL_cutSheet) := goodIn_app (goodIn_of _ (by decide +kernel)) ggL_law_L_cutSheet
set_option maxRecDepth 20000 in
theorem ggL_law_X12_cutSheet : GoodIn wsL_law wsX12_cutSheet := goodIn_r _ [305, 174, 271, 175, 176, 5, 177, 181, 182, 183, 184, 1309, 1310, 1311, 1312, 1313, 1314, 1315, 1316, 1317, 1318, 1319, 1320, 1321, 1322, 1323, 1324, 1325, 1326, 1327, 1328, 1329, 1330, 1331, 1332, 1333] (by decide +kernel) (by decide +kernel)
set_option maxRecDepth 20000 in
theorem gL_law_X12_cutSheet : GoodIn wsL_law (wsV RL 160 RX12 yX12_cutSheet wsX12_cutSheet) := goodIn_app (goodIn_of _ (by decide +kernel)) ggL_law_X12_cutSheet
set_option maxRecDepth 20000 in
theorem ggL_law_L_store : GoodIn wsL_law wsL_store := goodIn_ca (goodIn_ca (goodIn_r _ [308, 152, 247, 309, 310, 311, 2, 312, 157, 158, 252, 253, 23, 280, 281, 282, 283, 313, 314, 315, 22, 316, 317, 62, 318, 319, 320, 321, 322, 323, 324, 325, 326, 327, 328, 329, 330, 331, 332, 333, 63, 334, 335, 336, 337, 338, 339, 340, 341, 65, 342, 343, 75, 344, 76, 345, 346, 347, 58, 348, 349, 350, 351, 352, 258, 353, 255, 256, 257, 354, 355, 356, 357, 358, 359, 360, 361, 70, 263, 264, 265, 266, 362, 363, 364, 365, 15, 366, 367, 368, 369, 370, 371, 41, 372, 373, 374, 375, 376, 377, 378, 379, 380, 381, 382, 383, 384, 385, 386, 387, 388, 389, 390, 391, 392, 393, 394, 395, 396, 397, 398, 399, 1304, 1305, 1306, 1307, 1308, 1337, 1338, 1339, 1340, 1341, 1362, 1363, 1364, 1365, 1360, 1361, 1334] (by decide +kernel) (by decide +kernel)) (goodIn_sub (fun _ h => List.mem_append_left _ (List.mem_append_left _ (List.mem_append_right _ h))) (by decide +kernel))) (goodIn_sub (fun _ h => List.mem_append_right _ h) (by decide +kernel))
set_option maxRecDepth 20000 in
theorem gL_law_L_store : GoodIn wsL_law (va_wsS RL 161 yL_store wsL_store) := goodIn_app (goodIn_of _ (by decide +kernel)) ggL_law_L_store
set_option maxRecDepth 20000 in
theorem ggL_law_X12_store : GoodIn wsL_law wsX12_store := goodIn_r _ [403, 174, 289, 404, 130, 271, 175, 176, 5, 177, 181, 182, 183, 184, 405, 406, 407, 408, 131, 409, 410, 411, 412, 132, 134, 413, 414, 415, 416, 417, 418, 419, 420, 1309, 1310, 1311, 1312, 1313, 1314, 1315, 1316, 1317, 1318, 1319, 1320, 1321, 1322, 1323, 1324, 1325, 1326, 1327, 1328, 1329, 1330, 1331, 1332, 1333] (by decide +kernel) (by decide +kernel)
set_option maxRecDepth 20000 in
theorem gL_law_X12_store : GoodIn wsL_law (wsV RL 163 RX12 yX12_store wsX12_store) := goodIn_app (goodIn_of _ (by decide +kernel)) ggL_law_X12_store
set_option maxRecDepth 20000 in
theorem ggL_law_X11_remove : GoodIn wsL_law wsX11_remove := goodIn_r _ [424, 23, 425, 426, 427, 22, 428, 317, 318, 319, 320, 321, 322, 323, 324, 325, 326, 327, 328, 329, 62, 335, 336, 337, 338, 429, 255, 256, 58, 257, 258, 1304, 1305, 1306, 1307, 1308, 1337, 1338, 1339, 1340, 1341, 1362, 1363, 1364, 1365, 1360, 1361] (by decide +kernel) (by decide +kernel)
set_option maxRecDepth 20000 in
theorem gL_law_X11_remove : GoodIn wsL_law (wsV RL 164 RX11 yX11_remove wsX11_remove) := goodIn_app (goodIn_of _ (by decide +kernel)) ggL_law_X11_remove
set_option maxRecDepth 20000 in
theorem ggL_law_X12_remove : GoodIn wsL_law wsX12_remove := goodIn_r _ [433, 174, 132, 404, 405, 406, 407, 5, 408, 131, 417, 418, 419, 420, 134, 413, 414, 415, 416, 1309, 1310, 1311, 1312, 1313, 1314, 1315, 1316, 1317, 1318, 1319, 1320, 1321, 1322, 1323, 1324, 1325, 1326, 1327, 1328, 1329, 1330, 1331, 1332, 1333] (by decide +kernel) (by decide +kernel)
set_option maxRecDepth 20000 in
theorem gL_law_X12_remove : GoodIn wsL_law (wsV RL 167 RX12 yX12_remove wsX12_remove) := goodIn_app (goodIn_of _ (by decide +kernel)) ggL_law_X12_remove
set_option maxRecDepth 20000 in
theorem ggL_law_X11_files : GoodIn wsL_law wsX11_files := goodIn_r _ [437, 23, 396, 397, 398, 22, 399, 317, 1304, 1305, 1306, 1307, 1308, 1337, 1338, 1339, 1340, 1341] (by decide +kernel) (by decide +kernel)
set_option maxRecDepth 20000 in
theorem gL_law_X11_files : GoodIn wsL_law (wsV RL 168 RX11 yX11_files wsX11_files) := goodIn_app (goodIn_of _ (by decide +kernel)) ggL_law_X11_files
set_option maxRecDepth 20000 in
theorem ggL_law_X12_files : GoodIn wsL_law wsX12_files := goodIn_r _ [441, 404, 442, 443, 444, 5, 445, 174, 1309, 1310, 1311, 1312, 1313, 1314, 1315, 1316, 1317, 1318, 1319, 1320, 1321, 1322, 1323, 1324, 1325, 1326, 1327, 1328, 1329, 1330, 1331, 1332, 1333] (by decide +kernel) (by decide +kernel)
set_option maxRecDepth 20000 in
theorem gL_law_X12_files : GoodIn wsL_law (wsV RL 171 RX12 yX12_files wsX12_files) := goodIn_app (goodIn_of _ (by decide +kernel)) ggL_law_X12_files
