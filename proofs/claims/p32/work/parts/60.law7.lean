set_option maxRecDepth 20000 in
theorem ggL_law_L_size : GoodIn wsL_law wsL_size := goodIn_r _ [179] (by decide +kernel) (by decide +kernel)
set_option maxRecDepth 20000 in
theorem gL_law_L_size : GoodIn wsL_law (va_wsS RL 71 yL_size wsL_size) := goodIn_app (goodIn_of _ (by decide +kernel)) ggL_law_L_size
set_option maxRecDepth 20000 in
theorem ggL_law_L_held : GoodIn wsL_law wsL_held := goodIn_r _ [185] (by decide +kernel) (by decide +kernel)
set_option maxRecDepth 20000 in
theorem gL_law_L_held : GoodIn wsL_law (va_wsS RL 63 yL_held wsL_held) := goodIn_app (goodIn_of _ (by decide +kernel)) ggL_law_L_held
set_option maxRecDepth 20000 in
theorem ggL_law_X0_close : GoodIn wsL_law wsX0_close := goodIn_ca (goodIn_r _ [189, 20, 146, 147, 148, 2, 149, 62, 63, 190, 191, 192, 193, 118, 119, 120, 121, 122, 123, 124, 325, 326, 327, 328, 329, 330, 331, 332, 333, 334, 335, 336, 337, 338, 339, 340] (by decide +kernel) (by decide +kernel)) (goodIn_sub (fun _ h => List.mem_append_right _ h) (by decide +kernel))
set_option maxRecDepth 20000 in
theorem gL_law_X0_close : GoodIn wsL_law (wsV RL 149 RX0 yX0_close wsX0_close) := goodIn_app (goodIn_of _ (by decide +kernel)) ggL_law_X0_close
set_option maxRecDepth 20000 in
theorem ggL_law_L_asks : GoodIn wsL_law wsL_asks := goodIn_r _ [196, 158, 159, 23, 160] (by decide +kernel) (by decide +kernel)
set_option maxRecDepth 20000 in
theorem gL_law_L_asks : GoodIn wsL_law (va_wsS RL 59 yL_asks wsL_asks) := goodIn_app (goodIn_of _ (by decide +kernel)) ggL_law_L_asks
set_option maxRecDepth 20000 in
theorem ggL_law_X0_request : GoodIn wsL_law wsX0_request := goodIn_ca (goodIn_r _ [200, 78, 58, 59, 60, 2, 61, 62, 63, 201, 202, 203, 204, 76, 17, 87, 88, 89, 51, 52, 53, 205, 206, 207, 208, 134, 110, 111, 112, 113, 18, 118, 119, 120, 121, 122, 123, 124, 325, 326, 327, 328, 329, 330, 331, 332, 333, 334, 335, 336, 337, 338, 339, 340] (by decide +kernel) (by decide +kernel)) (goodIn_sub (fun _ h => List.mem_append_right _ h) (by decide +kernel))
set_option maxRecDepth 20000 in
theorem gL_law_X0_request : GoodIn wsL_law (wsV RL 152 RX0 yX0_request wsX0_request) := goodIn_app (goodIn_of _ (by decide +kernel)) ggL_law_X0_request
set_option maxRecDepth 20000 in
theorem ggL_law_L_passes : GoodIn wsL_law wsL_passes := goodIn_r _ [211, 158, 159, 23, 160, 165, 166, 167, 168, 169, 170, 194, 195, 196] (by decide +kernel) (by decide +kernel)
set_option maxRecDepth 20000 in
theorem gL_law_L_passes : GoodIn wsL_law (va_wsS RL 155 yL_passes wsL_passes) := goodIn_app (goodIn_of _ (by decide +kernel)) ggL_law_L_passes
set_option maxRecDepth 20000 in
theorem ggL_law_X0_passDays : GoodIn wsL_law wsX0_passDays := goodIn_ca (goodIn_r _ [215, 49, 50, 77, 216, 217, 218, 2, 219, 43, 13, 14, 87, 88, 89, 51, 52, 53, 220, 221, 222, 223, 224, 225, 226, 76, 78, 16, 17, 15, 79, 80, 81, 82, 83, 84, 85, 86, 44, 68, 69, 70, 71, 90, 91, 92, 93, 12, 205, 206, 207, 208, 134, 110, 111, 112, 113, 18, 118, 119, 120, 121, 122, 123, 124, 325, 326, 327, 328, 329, 330, 331, 332, 333, 334, 335, 336, 337, 338, 339, 340] (by decide +kernel) (by decide +kernel)) (goodIn_sub (fun _ h => List.mem_append_left _ (List.mem_append_right _ h)) (by decide +kernel))
set_option maxRecDepth 20000 in
theorem gL_law_X0_passDays : GoodIn wsL_law (wsV RL 159 RX0 yX0_passDays wsX0_passDays) := goodIn_app (goodIn_of _ (by decide +kernel)) ggL_law_X0_passDays
set_option maxRecDepth 20000 in
theorem ggL_law_L_erases : GoodIn wsL_law wsL_erases := goodIn_r _ [229, 230, 231, 23, 232, 183, 184, 185, 158, 159, 160] (by decide +kernel) (by decide +kernel)
set_option maxRecDepth 20000 in
theorem gL_law_L_erases : GoodIn wsL_law (va_wsS RL 162 yL_erases wsL_erases) := goodIn_app (goodIn_of _ (by decide +kernel)) ggL_law_L_erases
set_option maxRecDepth 20000 in
theorem ggL_law_X0_erase : GoodIn wsL_law wsX0_erase := goodIn_ca (goodIn_r _ [236, 76, 237, 238, 239, 2, 240, 133, 78, 98, 99, 100, 101, 62, 63, 87, 88, 89, 51, 52, 53, 190, 191, 192, 193, 20, 241, 242, 243, 244, 110, 111, 112, 113, 18, 245, 246, 247, 248, 134, 325, 326, 327, 328, 329, 330, 331, 332, 333, 334, 335, 336, 337, 338, 339, 340] (by decide +kernel) (by decide +kernel)) (goodIn_sub (fun _ h => List.mem_append_right _ h) (by decide +kernel))
set_option maxRecDepth 20000 in
theorem gL_law_X0_erase : GoodIn wsL_law (wsV RL 166 RX0 yX0_erase wsX0_erase) := goodIn_app (goodIn_of _ (by decide +kernel)) ggL_law_X0_erase
set_option maxRecDepth 20000 in
theorem ggL_law_X0_eraseAll : GoodIn wsL_law wsX0_eraseAll := goodIn_ca (goodIn_r _ [252, 76, 237, 238, 239, 2, 240, 133, 78, 98, 99, 100, 101, 62, 63, 87, 88, 89, 51, 52, 53, 190, 191, 192, 193, 20, 241, 242, 243, 244, 110, 111, 112, 113, 18, 245, 246, 247, 248, 134, 325, 326, 327, 328, 329, 330, 331, 332, 333, 334, 335, 336, 337, 338, 339, 340] (by decide +kernel) (by decide +kernel)) (goodIn_sub (fun _ h => List.mem_append_right _ h) (by decide +kernel))
set_option maxRecDepth 20000 in
theorem gL_law_X0_eraseAll : GoodIn wsL_law (wsV RL 169 RX0 yX0_eraseAll wsX0_eraseAll) := goodIn_app (goodIn_of _ (by decide +kernel)) ggL_law_X0_eraseAll

