set_option maxRecDepth 20000 in
theorem ggL_law_X11_digest_4 : GoodIn wsL_law (((wsX11_digest.drop 86).drop 73).drop 45) := goodIn_r _ [1355, 1356, 1357, 1358, 1359, 1370, 1371, 1372, 1373, 1374] (by decide +kernel) (by decide +kernel)
