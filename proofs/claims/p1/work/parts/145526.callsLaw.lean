set_option maxRecDepth 20000 in
theorem ggL_law_X12_digest_2 : GoodIn wsL_law (wsX12_digest.drop 77) := goodIn_r _ [1315, 1316, 1317, 1318, 1319, 1320, 1321, 1322, 1323, 1324, 1325, 1326, 1327, 1328, 1329, 1330, 1331, 1332, 1333] (by decide +kernel) (by decide +kernel)
theorem ggL_law_X12_digest : GoodIn wsL_law wsX12_digest := goodIn_td 77 ggL_law_X12_digest_1 ggL_law_X12_digest_2
set_option maxRecDepth 20000 in
theorem gL_law_X12_digest : GoodIn wsL_law (wsV RL 287 RX12 yX12_digest wsX12_digest) := goodIn_app (goodIn_of _ (by decide +kernel)) ggL_law_X12_digest
