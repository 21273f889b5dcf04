set_option maxRecDepth 20000 in
theorem gg_wsL_isSo_r5 : GoodIn wsL_law wsL_isSo_r5 := goodIn_r _ [112, 113, 18, 277, 278, 279, 280, 281, 282, 283, 284, 285, 286, 287, 288, 289, 238, 239, 240, 78, 230, 231, 232, 290] (by decide +kernel) (by decide +kernel)
set_option maxRecDepth 20000 in
theorem gg_wsL_isSo_r6 : GoodIn wsL_law wsL_isSo_r6 := goodIn_r _ [291, 292, 293, 58, 59, 60, 61, 294, 295, 296, 297, 201, 202, 203, 204, 298, 299, 300, 301, 302, 303, 304, 305, 106] (by decide +kernel) (by decide +kernel)
set_option maxRecDepth 20000 in
theorem gg_wsL_isSo_r7 : GoodIn wsL_law wsL_isSo_r7 := goodIn_r _ [107, 108, 109, 306, 307, 308, 309, 19, 139, 140, 141, 310, 311, 312, 313, 14, 220, 221, 222, 314, 315, 316, 317, 223] (by decide +kernel) (by decide +kernel)
set_option maxRecDepth 20000 in
theorem gg_wsL_isSo_r8 : GoodIn wsL_law wsL_isSo_r8 := goodIn_r _ [224, 225, 226, 79, 80, 81, 82, 318, 319, 320, 321, 322, 323, 324] (by decide +kernel) (by decide +kernel)
set_option maxRecDepth 20000 in
theorem gg_isSo_x : GoodIn wsL_law wsX00 := goodIn_r _ [325, 326, 327, 328, 329, 330, 331, 332, 333, 334, 335, 336, 337, 338, 339, 340] (by decide +kernel) (by decide +kernel)
set_option maxRecDepth 20000 in
theorem ggL_law_L_isSo : GoodIn wsL_law wsL_isSo := goodIn_ca (fun w h => (List.mem_cons.mp h).elim (fun e => gg_isSo_c w (List.mem_singleton.mpr e)) (fun h => (goodIn_app (goodIn_app gg_wsL_isSo_r1 (goodIn_app gg_wsL_isSo_r2 (goodIn_app gg_wsL_isSo_r3 (goodIn_app gg_wsL_isSo_r4 (goodIn_app gg_wsL_isSo_r5 (goodIn_app gg_wsL_isSo_r6 (goodIn_app gg_wsL_isSo_r7 (gg_wsL_isSo_r8)))))))) gg_isSo_x) w h)) (goodIn_sub (fun _ h => List.mem_append_right _ h) (by decide +kernel))
set_option maxRecDepth 20000 in
theorem gL_law_L_isSo : GoodIn wsL_law (va_wsS RL 172 yL_isSo wsL_isSo) := goodIn_app (goodIn_of _ (by decide +kernel)) ggL_law_L_isSo
