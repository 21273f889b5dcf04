set_option maxRecDepth 20000 in
theorem gg_wsL_isSo_r1 : GoodIn wsL_law wsL_isSo_r1 := goodIn_r _ [5, 256, 257, 258, 2, 259, 77, 260, 261, 262, 263, 76, 264, 265, 266, 267, 190, 191, 192, 193, 20, 183, 184, 23] (by decide +kernel) (by decide +kernel)
set_option maxRecDepth 20000 in
theorem gg_wsL_isSo_r2 : GoodIn wsL_law wsL_isSo_r2 := goodIn_r _ [185, 158, 159, 160, 168, 169, 170, 268, 130, 131, 132, 133, 134, 16, 17, 15, 98, 99, 100, 101, 62, 63, 135, 136] (by decide +kernel) (by decide +kernel)
set_option maxRecDepth 20000 in
theorem gg_wsL_isSo_r3 : GoodIn wsL_law wsL_isSo_r3 := goodIn_r _ [137, 138, 43, 87, 88, 89, 51, 52, 53, 83, 84, 85, 86, 13, 44, 68, 69, 70, 71, 90, 91, 92, 93, 12] (by decide +kernel) (by decide +kernel)
set_option maxRecDepth 20000 in
theorem gg_wsL_isSo_r4 : GoodIn wsL_law wsL_isSo_r4 := goodIn_r _ [180, 181, 182, 165, 166, 167, 154, 155, 156, 157, 269, 270, 271, 272, 273, 274, 275, 276, 241, 242, 243, 244, 110, 111] (by decide +kernel) (by decide +kernel)
set_option maxRecDepth 20000 in
theorem gg_isSo_c : GoodIn wsL_law [.code yL_isSo cL_isSo 19 (some .boolean)] := goodIn_r _ [255] (by decide +kernel) (by decide +kernel)
