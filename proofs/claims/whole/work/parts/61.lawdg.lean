set_option maxRecDepth 20000 in
theorem ggL_law_X0_due : GoodIn wsL_law wsX0_due := goodIn_r _ [561, 392, 393, 394, 2, 395, 169, 171, 18, 19, 17, 112, 113, 114, 59, 60, 61, 172, 173, 174, 175, 51, 176, 177, 178, 179, 15, 52, 161, 162, 163, 164, 180, 181, 182, 183, 170, 14, 566, 567, 568, 569, 570, 571, 572, 573, 574, 575, 576, 577, 578, 579, 580, 581] (by decide +kernel) (by decide +kernel)
set_option maxRecDepth 20000 in
theorem gL_law_X0_due : GoodIn wsL_law (wsV RL 189 RX0 yX0_due wsX0_due) := goodIn_app (goodIn_of _ (by decide +kernel)) ggL_law_X0_due
set_option maxRecDepth 20000 in
theorem ggL_law_X1_due : GoodIn wsL_law wsX1_due := goodIn_r _ [565, 66, 404, 405, 406, 5, 407, 188, 36, 189, 336, 337, 338, 339, 34, 35, 225, 226, 227, 228, 33, 32, 229, 230, 231, 232, 122, 123, 124, 194, 195, 196, 197, 67, 27, 198, 199, 200, 201, 29, 30, 582, 583, 584, 585, 586, 587, 588, 589, 590, 591, 592, 593, 594, 595, 596] (by decide +kernel) (by decide +kernel)
set_option maxRecDepth 20000 in
theorem gL_law_X1_due : GoodIn wsL_law (wsV RL 192 RX1 yX1_due wsX1_due) := goodIn_app (goodIn_of _ (by decide +kernel)) ggL_law_X1_due
