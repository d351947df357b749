set_option maxRecDepth 20000 in
theorem ggL_law_X12_open_3 : GoodIn wsL_law ((wsX12_open.drop 72).drop 43) := goodIn_r _ [1314, 1315, 1316, 1317, 1318, 1319, 1320, 1321, 1322, 1323, 1324, 1325, 1326, 1327, 1328, 1329, 1330, 1331, 1332, 1333] (by decide +kernel) (by decide +kernel)
theorem ggL_law_X12_open : GoodIn wsL_law wsX12_open := goodIn_td 72 ggL_law_X12_open_1 (goodIn_td 43 ggL_law_X12_open_2 ggL_law_X12_open_3)
set_option maxRecDepth 20000 in
theorem gL_law_X12_open : GoodIn wsL_law (wsV RL 247 RX12 yX12_open wsX12_open) := goodIn_app (goodIn_of _ (by decide +kernel)) ggL_law_X12_open
