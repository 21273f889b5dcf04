set_option maxRecDepth 20000 in
theorem ggL_law_X0_init : GoodIn wsL_law wsX0_init := goodIn_r _ [9, 10, 11, 12, 13, 14, 15, 16, 17, 18, 19, 20, 21, 22, 566, 567, 568, 569, 570, 571, 572, 573, 574, 575, 576, 577, 578, 579, 580, 581] (by decide +kernel) (by decide +kernel)
set_option maxRecDepth 20000 in
theorem gL_law_X0_init : GoodIn wsL_law (wsX0_init) := ggL_law_X0_init
set_option maxRecDepth 20000 in
theorem ggL_law_X1_init : GoodIn wsL_law wsX1_init := goodIn_r _ [25, 26, 11, 12, 13, 27, 28, 29, 30, 31, 32, 33, 34, 35, 36, 37, 38, 582, 583, 584, 585, 586, 587, 588, 589, 590, 591, 592, 593, 594, 595, 596] (by decide +kernel) (by decide +kernel)
set_option maxRecDepth 20000 in
theorem gL_law_X1_init : GoodIn wsL_law (wsX1_init) := ggL_law_X1_init
set_option maxRecDepth 20000 in
theorem ggL_law_L_addPurpose : GoodIn wsL_law wsL_addPurpose := goodIn_ca (goodIn_ca (goodIn_r _ [42, 43, 44, 45, 46, 47, 2, 48, 49, 50, 51, 14, 52, 53, 54, 55, 56, 57, 58, 59, 60, 61, 566, 567, 568, 569, 570, 571, 572, 573, 574, 575, 576, 577, 578, 579, 580, 581] (by decide +kernel) (by decide +kernel)) (goodIn_sub (fun _ h => List.mem_append_left _ (List.mem_append_left _ (List.mem_append_right _ h))) (by decide +kernel))) (goodIn_sub (fun _ h => List.mem_append_left _ (List.mem_append_right _ h)) (by decide +kernel))
set_option maxRecDepth 20000 in
theorem gL_law_L_addPurpose : GoodIn wsL_law (va_wsS RL 89 yL_addPurpose wsL_addPurpose) := goodIn_app (goodIn_of _ (by decide +kernel)) ggL_law_L_addPurpose
set_option maxRecDepth 20000 in
theorem ggL_law_X1_addPurpose : GoodIn wsL_law wsX1_addPurpose := goodIn_r _ [65, 66, 67, 27, 29, 68, 69, 5, 70, 71, 72, 73, 74, 582, 583, 584, 585, 586, 587, 588, 589, 590, 591, 592, 593, 594, 595, 596] (by decide +kernel) (by decide +kernel)
set_option maxRecDepth 20000 in
theorem gL_law_X1_addPurpose : GoodIn wsL_law (wsV RL 94 RX1 yX1_addPurpose wsX1_addPurpose) := goodIn_app (goodIn_of _ (by decide +kernel)) ggL_law_X1_addPurpose
set_option maxRecDepth 20000 in
theorem ggL_law_X1_thrown : GoodIn wsL_law wsX1_thrown := goodIn_r _ [78, 66, 582, 583, 584, 585, 586, 587, 588, 589, 590, 591, 592, 593, 594, 595, 596] (by decide +kernel) (by decide +kernel)
set_option maxRecDepth 20000 in
theorem gL_law_X1_thrown : GoodIn wsL_law (wsV RL 95 RX1 yX1_thrown wsX1_thrown) := goodIn_app (goodIn_of _ (by decide +kernel)) ggL_law_X1_thrown
set_option maxRecDepth 20000 in
theorem ggL_law_L_setRetention : GoodIn wsL_law wsL_setRetention := goodIn_ca (goodIn_ca (goodIn_r _ [81, 82, 43, 83, 84, 85, 2, 86, 14, 87, 88, 89, 90, 91, 92, 51, 53, 54, 55, 56, 57, 58, 566, 567, 568, 569, 570, 571, 572, 573, 574, 575, 576, 577, 578, 579, 580, 581] (by decide +kernel) (by decide +kernel)) (goodIn_sub (fun _ h => List.mem_append_right _ h) (by decide +kernel))) (goodIn_sub (fun _ h => List.mem_append_left _ (List.mem_append_right _ h)) (by decide +kernel))
set_option maxRecDepth 20000 in
theorem gL_law_L_setRetention : GoodIn wsL_law (va_wsS RL 99 yL_setRetention wsL_setRetention) := goodIn_app (goodIn_of _ (by decide +kernel)) ggL_law_L_setRetention
set_option maxRecDepth 20000 in
theorem ggL_law_X1_setRetention : GoodIn wsL_law wsX1_setRetention := goodIn_r _ [96, 66, 27, 97, 98, 99, 5, 100, 67, 68, 69, 70, 71, 72, 73, 74, 582, 583, 584, 585, 586, 587, 588, 589, 590, 591, 592, 593, 594, 595, 596] (by decide +kernel) (by decide +kernel)
set_option maxRecDepth 20000 in
theorem gL_law_X1_setRetention : GoodIn wsL_law (wsV RL 102 RX1 yX1_setRetention wsX1_setRetention) := goodIn_app (goodIn_of _ (by decide +kernel)) ggL_law_X1_setRetention
set_option maxRecDepth 20000 in
theorem ggL_law_L_consent : GoodIn wsL_law wsL_consent := goodIn_ca (goodIn_r _ [103, 82, 104, 105, 106, 2, 107, 15, 108, 109, 110, 111, 91, 92, 87, 88, 89, 90, 51, 112, 113, 114, 59, 60, 61, 566, 567, 568, 569, 570, 571, 572, 573, 574, 575, 576, 577, 578, 579, 580, 581] (by decide +kernel) (by decide +kernel)) (goodIn_sub (fun _ h => List.mem_append_right _ h) (by decide +kernel))
set_option maxRecDepth 20000 in
theorem gL_law_L_consent : GoodIn wsL_law (va_wsS RL 103 yL_consent wsL_consent) := goodIn_app (goodIn_of _ (by decide +kernel)) ggL_law_L_consent
set_option maxRecDepth 20000 in
theorem ggL_law_X1_consent : GoodIn wsL_law wsX1_consent := goodIn_r _ [118, 66, 30, 119, 120, 5, 121, 68, 69, 70, 97, 98, 99, 100, 67, 122, 123, 124, 582, 583, 584, 585, 586, 587, 588, 589, 590, 591, 592, 593, 594, 595, 596] (by decide +kernel) (by decide +kernel)
set_option maxRecDepth 20000 in
theorem gL_law_X1_consent : GoodIn wsL_law (wsV RL 106 RX1 yX1_consent wsX1_consent) := goodIn_app (goodIn_of _ (by decide +kernel)) ggL_law_X1_consent
set_option maxRecDepth 20000 in
theorem ggL_law_L_consents : GoodIn wsL_law wsL_consents := goodIn_ca (goodIn_r _ [127, 82, 128, 129, 130, 2, 131, 15, 108, 109, 110, 111, 91, 92, 566, 567, 568, 569, 570, 571, 572, 573, 574, 575, 576, 577, 578, 579, 580, 581] (by decide +kernel) (by decide +kernel)) (goodIn_sub (fun _ h => List.mem_append_right _ h) (by decide +kernel))
set_option maxRecDepth 20000 in
theorem gL_law_L_consents : GoodIn wsL_law (va_wsS RL 107 yL_consents wsL_consents) := goodIn_app (goodIn_of _ (by decide +kernel)) ggL_law_L_consents
set_option maxRecDepth 20000 in
theorem ggL_law_X1_consents : GoodIn wsL_law wsX1_consents := goodIn_r _ [135, 66, 30, 119, 120, 5, 121, 68, 69, 70, 71, 72, 73, 74, 582, 583, 584, 585, 586, 587, 588, 589, 590, 591, 592, 593, 594, 595, 596] (by decide +kernel) (by decide +kernel)
set_option maxRecDepth 20000 in
theorem gL_law_X1_consents : GoodIn wsL_law (wsV RL 110 RX1 yX1_consents wsX1_consents) := goodIn_app (goodIn_of _ (by decide +kernel)) ggL_law_X1_consents
set_option maxRecDepth 20000 in
theorem ggL_law_L_daysWithConsent : GoodIn wsL_law wsL_daysWithConsent := goodIn_ca (goodIn_r _ [138, 82, 139, 140, 141, 2, 142, 16, 108, 109, 110, 111, 91, 92, 87, 88, 89, 90, 51, 143, 144, 145, 566, 567, 568, 569, 570, 571, 572, 573, 574, 575, 576, 577, 578, 579, 580, 581] (by decide +kernel) (by decide +kernel)) (goodIn_sub (fun _ h => List.mem_append_right _ h) (by decide +kernel))
set_option maxRecDepth 20000 in
theorem gL_law_L_daysWithConsent : GoodIn wsL_law (va_wsS RL 111 yL_daysWithConsent wsL_daysWithConsent) := goodIn_app (goodIn_of _ (by decide +kernel)) ggL_law_L_daysWithConsent
set_option maxRecDepth 20000 in
theorem ggL_law_X1_daysWithConsent : GoodIn wsL_law wsX1_daysWithConsent := goodIn_r _ [149, 66, 31, 119, 120, 5, 121, 68, 69, 70, 97, 98, 99, 100, 67, 71, 72, 73, 74, 582, 583, 584, 585, 586, 587, 588, 589, 590, 591, 592, 593, 594, 595, 596] (by decide +kernel) (by decide +kernel)
set_option maxRecDepth 20000 in
theorem gL_law_X1_daysWithConsent : GoodIn wsL_law (wsV RL 113 RX1 yX1_daysWithConsent wsX1_daysWithConsent) := goodIn_app (goodIn_of _ (by decide +kernel)) ggL_law_X1_daysWithConsent
set_option maxRecDepth 20000 in
theorem ggL_law_L_add : GoodIn wsL_law wsL_add := goodIn_ca (goodIn_ca (goodIn_ca (goodIn_r _ [152, 82, 43, 44, 153, 154, 155, 2, 156, 108, 109, 110, 111, 91, 92, 157, 158, 159, 160, 57, 58, 161, 162, 163, 164, 51, 59, 60, 61, 165, 166, 167, 168, 49, 50, 169, 170, 17, 18, 19, 20, 171, 172, 173, 174, 175, 176, 177, 178, 179, 15, 52, 112, 113, 114, 180, 181, 182, 183, 14, 566, 567, 568, 569, 570, 571, 572, 573, 574, 575, 576, 577, 578, 579, 580, 581] (by decide +kernel) (by decide +kernel)) (goodIn_sub (fun _ h => List.mem_append_right _ h) (by decide +kernel))) (goodIn_sub (fun _ h => List.mem_append_left _ (List.mem_append_right _ h)) (by decide +kernel))) (goodIn_sub (fun _ h => List.mem_append_left _ (List.mem_append_left _ (List.mem_append_right _ h))) (by decide +kernel))
set_option maxRecDepth 20000 in
theorem gL_law_L_add : GoodIn wsL_law (va_wsS RL 114 yL_add wsL_add) := goodIn_app (goodIn_of _ (by decide +kernel)) ggL_law_L_add
set_option maxRecDepth 20000 in
theorem ggL_law_X1_add : GoodIn wsL_law wsX1_add := goodIn_r _ [187, 66, 188, 189, 119, 120, 5, 121, 68, 69, 70, 190, 191, 192, 193, 67, 71, 72, 73, 74, 194, 195, 196, 197, 27, 122, 123, 124, 198, 199, 200, 201, 29, 30, 202, 203, 204, 205, 32, 33, 34, 35, 36, 582, 583, 584, 585, 586, 587, 588, 589, 590, 591, 592, 593, 594, 595, 596] (by decide +kernel) (by decide +kernel)
set_option maxRecDepth 20000 in
theorem gL_law_X1_add : GoodIn wsL_law (wsV RL 116 RX1 yX1_add wsX1_add) := goodIn_app (goodIn_of _ (by decide +kernel)) ggL_law_X1_add
set_option maxRecDepth 20000 in
theorem ggL_law_L_derive : GoodIn wsL_law wsL_derive := goodIn_ca (goodIn_ca (goodIn_ca (goodIn_r _ [208, 82, 43, 44, 209, 210, 211, 2, 212, 49, 50, 171, 19, 213, 214, 215, 216, 91, 92, 169, 157, 158, 159, 160, 57, 58, 161, 162, 163, 164, 51, 59, 60, 61, 112, 113, 114, 165, 166, 167, 168, 170, 17, 18, 20, 172, 173, 174, 175, 176, 177, 178, 179, 15, 52, 180, 181, 182, 183, 14, 566, 567, 568, 569, 570, 571, 572, 573, 574, 575, 576, 577, 578, 579, 580, 581] (by decide +kernel) (by decide +kernel)) (goodIn_sub (fun _ h => List.mem_append_left _ (List.mem_append_left _ (List.mem_append_right _ h))) (by decide +kernel))) (goodIn_sub (fun _ h => List.mem_append_right _ h) (by decide +kernel))) (goodIn_sub (fun _ h => List.mem_append_left _ (List.mem_append_right _ h)) (by decide +kernel))
set_option maxRecDepth 20000 in
theorem gL_law_L_derive : GoodIn wsL_law (va_wsS RL 117 yL_derive wsL_derive) := goodIn_app (goodIn_of _ (by decide +kernel)) ggL_law_L_derive
set_option maxRecDepth 20000 in
theorem ggL_law_X1_derive : GoodIn wsL_law wsX1_derive := goodIn_r _ [220, 66, 188, 36, 189, 221, 222, 223, 5, 224, 68, 69, 70, 190, 191, 192, 193, 67, 71, 72, 73, 74, 225, 226, 227, 228, 33, 32, 229, 230, 231, 232, 122, 123, 124, 194, 195, 196, 197, 27, 198, 199, 200, 201, 29, 30, 202, 203, 204, 205, 34, 35, 582, 583, 584, 585, 586, 587, 588, 589, 590, 591, 592, 593, 594, 595, 596] (by decide +kernel) (by decide +kernel)
set_option maxRecDepth 20000 in
theorem gL_law_X1_derive : GoodIn wsL_law (wsV RL 119 RX1 yX1_derive wsX1_derive) := goodIn_app (goodIn_of _ (by decide +kernel)) ggL_law_X1_derive
set_option maxRecDepth 20000 in
theorem ggL_law_L_addSource : GoodIn wsL_law wsL_addSource := goodIn_ca (goodIn_ca (goodIn_ca (goodIn_r _ [235, 82, 43, 44, 236, 237, 238, 2, 239, 57, 58, 49, 50, 20, 171, 19, 213, 214, 215, 216, 91, 92, 169, 112, 113, 114, 59, 60, 61, 240, 241, 242, 243, 244, 245, 246, 247, 248, 249, 250, 251, 252, 253, 254, 255, 256, 257, 258, 566, 567, 568, 569, 570, 571, 572, 573, 574, 575, 576, 577, 578, 579, 580, 581] (by decide +kernel) (by decide +kernel)) (goodIn_sub (fun _ h => List.mem_append_left _ (List.mem_append_right _ h)) (by decide +kernel))) (goodIn_sub (fun _ h => List.mem_append_left _ (List.mem_append_left _ (List.mem_append_right _ h))) (by decide +kernel))) (goodIn_sub (fun _ h => List.mem_append_right _ h) (by decide +kernel))
set_option maxRecDepth 20000 in
theorem gL_law_L_addSource : GoodIn wsL_law (va_wsS RL 120 yL_addSource wsL_addSource) := goodIn_app (goodIn_of _ (by decide +kernel)) ggL_law_L_addSource
set_option maxRecDepth 20000 in
theorem ggL_law_X1_addSource : GoodIn wsL_law wsX1_addSource := goodIn_r _ [262, 66, 33, 36, 221, 222, 223, 5, 224, 188, 68, 69, 70, 71, 72, 73, 74, 122, 123, 124, 225, 226, 227, 228, 32, 229, 230, 231, 232, 263, 264, 265, 582, 583, 584, 585, 586, 587, 588, 589, 590, 591, 592, 593, 594, 595, 596] (by decide +kernel) (by decide +kernel)
set_option maxRecDepth 20000 in
theorem gL_law_X1_addSource : GoodIn wsL_law (wsV RL 122 RX1 yX1_addSource wsX1_addSource) := goodIn_app (goodIn_of _ (by decide +kernel)) ggL_law_X1_addSource
set_option maxRecDepth 20000 in
theorem ggL_law_X0_records : GoodIn wsL_law wsX0_records := goodIn_r _ [269, 169, 566, 567, 568, 569, 570, 571, 572, 573, 574, 575, 576, 577, 578, 579, 580, 581] (by decide +kernel) (by decide +kernel)
set_option maxRecDepth 20000 in
theorem gL_law_X0_records : GoodIn wsL_law (wsV RL 123 RX0 yX0_records wsX0_records) := goodIn_app (goodIn_of _ (by decide +kernel)) ggL_law_X0_records
set_option maxRecDepth 20000 in
theorem ggL_law_X1_records : GoodIn wsL_law wsX1_records := goodIn_r _ [273, 66, 188, 582, 583, 584, 585, 586, 587, 588, 589, 590, 591, 592, 593, 594, 595, 596] (by decide +kernel) (by decide +kernel)
set_option maxRecDepth 20000 in
theorem gL_law_X1_records : GoodIn wsL_law (wsV RL 126 RX1 yX1_records wsX1_records) := goodIn_app (goodIn_of _ (by decide +kernel)) ggL_law_X1_records
set_option maxRecDepth 20000 in
theorem ggL_law_L_stateOf : GoodIn wsL_law wsL_stateOf := goodIn_ca (goodIn_r _ [276, 82, 277, 278, 279, 2, 280, 281, 282, 213, 214, 215, 216, 91, 92, 169, 112, 113, 114, 59, 60, 61, 566, 567, 568, 569, 570, 571, 572, 573, 574, 575, 576, 577, 578, 579, 580, 581] (by decide +kernel) (by decide +kernel)) (goodIn_sub (fun _ h => List.mem_append_right _ h) (by decide +kernel))
set_option maxRecDepth 20000 in
theorem gL_law_L_stateOf : GoodIn wsL_law (va_wsS RL 127 yL_stateOf wsL_stateOf) := goodIn_app (goodIn_of _ (by decide +kernel)) ggL_law_L_stateOf
set_option maxRecDepth 20000 in
theorem ggL_law_X1_stateOf : GoodIn wsL_law wsX1_stateOf := goodIn_r _ [286, 66, 36, 221, 222, 223, 5, 224, 188, 68, 69, 70, 71, 72, 73, 74, 582, 583, 584, 585, 586, 587, 588, 589, 590, 591, 592, 593, 594, 595, 596] (by decide +kernel) (by decide +kernel)
set_option maxRecDepth 20000 in
theorem gL_law_X1_stateOf : GoodIn wsL_law (wsV RL 129 RX1 yX1_stateOf wsX1_stateOf) := goodIn_app (goodIn_of _ (by decide +kernel)) ggL_law_X1_stateOf
set_option maxRecDepth 20000 in
theorem ggL_law_L_subjectsOf : GoodIn wsL_law wsL_subjectsOf := goodIn_ca (goodIn_r _ [289, 82, 290, 291, 292, 2, 293, 19, 213, 214, 215, 216, 91, 92, 169, 566, 567, 568, 569, 570, 571, 572, 573, 574, 575, 576, 577, 578, 579, 580, 581] (by decide +kernel) (by decide +kernel)) (goodIn_sub (fun _ h => List.mem_append_right _ h) (by decide +kernel))
set_option maxRecDepth 20000 in
theorem gL_law_L_subjectsOf : GoodIn wsL_law (va_wsS RL 130 yL_subjectsOf wsL_subjectsOf) := goodIn_app (goodIn_of _ (by decide +kernel)) ggL_law_L_subjectsOf
set_option maxRecDepth 20000 in
theorem ggL_law_X1_subjectsOf : GoodIn wsL_law wsX1_subjectsOf := goodIn_r _ [297, 66, 221, 222, 223, 5, 224, 188, 68, 69, 70, 225, 226, 227, 228, 33, 32, 229, 230, 231, 232, 122, 123, 124, 71, 72, 73, 74, 582, 583, 584, 585, 586, 587, 588, 589, 590, 591, 592, 593, 594, 595, 596] (by decide +kernel) (by decide +kernel)
set_option maxRecDepth 20000 in
theorem gL_law_X1_subjectsOf : GoodIn wsL_law (wsV RL 132 RX1 yX1_subjectsOf wsX1_subjectsOf) := goodIn_app (goodIn_of _ (by decide +kernel)) ggL_law_X1_subjectsOf
set_option maxRecDepth 20000 in
theorem ggL_law_L_below : GoodIn wsL_law wsL_below := goodIn_ca (goodIn_r _ [300, 82, 301, 302, 303, 2, 304, 213, 214, 215, 216, 91, 92, 169, 305, 306, 307, 308, 59, 60, 61, 244, 245, 246, 247, 20, 566, 567, 568, 569, 570, 571, 572, 573, 574, 575, 576, 577, 578, 579, 580, 581] (by decide +kernel) (by decide +kernel)) (goodIn_sub (fun _ h => List.mem_append_right _ h) (by decide +kernel))
set_option maxRecDepth 20000 in
theorem gL_law_L_below : GoodIn wsL_law (va_wsS RL 133 yL_below wsL_below) := goodIn_app (goodIn_of _ (by decide +kernel)) ggL_law_L_below
set_option maxRecDepth 20000 in
theorem ggL_law_X1_below : GoodIn wsL_law wsX1_below := goodIn_r _ [312, 66, 221, 222, 223, 5, 224, 188, 68, 69, 70, 313, 314, 315, 316, 33, 122, 123, 124, 71, 72, 73, 74, 582, 583, 584, 585, 586, 587, 588, 589, 590, 591, 592, 593, 594, 595, 596] (by decide +kernel) (by decide +kernel)
set_option maxRecDepth 20000 in
theorem gL_law_X1_below : GoodIn wsL_law (wsV RL 135 RX1 yX1_below wsX1_below) := goodIn_app (goodIn_of _ (by decide +kernel)) ggL_law_X1_below
set_option maxRecDepth 20000 in
theorem ggL_law_L_endOf : GoodIn wsL_law wsL_endOf := goodIn_ca (goodIn_r _ [319, 82, 320, 321, 322, 2, 323, 213, 214, 215, 216, 91, 92, 169, 324, 325, 326, 327, 18, 19, 51, 14, 328, 329, 330, 331, 17, 176, 177, 178, 179, 15, 52, 161, 162, 163, 164, 59, 60, 61, 112, 113, 114, 566, 567, 568, 569, 570, 571, 572, 573, 574, 575, 576, 577, 578, 579, 580, 581] (by decide +kernel) (by decide +kernel)) (goodIn_sub (fun _ h => List.mem_append_right _ h) (by decide +kernel))
set_option maxRecDepth 20000 in
theorem gL_law_L_endOf : GoodIn wsL_law (va_wsS RL 136 yL_endOf wsL_endOf) := goodIn_app (goodIn_of _ (by decide +kernel)) ggL_law_L_endOf
set_option maxRecDepth 20000 in
theorem ggL_law_X1_endOf : GoodIn wsL_law wsX1_endOf := goodIn_r _ [335, 66, 221, 222, 223, 5, 224, 188, 68, 69, 70, 336, 337, 338, 339, 34, 35, 225, 226, 227, 228, 33, 32, 229, 230, 231, 232, 122, 123, 124, 194, 195, 196, 197, 67, 27, 198, 199, 200, 201, 29, 30, 71, 72, 73, 74, 582, 583, 584, 585, 586, 587, 588, 589, 590, 591, 592, 593, 594, 595, 596] (by decide +kernel) (by decide +kernel)
set_option maxRecDepth 20000 in
theorem gL_law_X1_endOf : GoodIn wsL_law (wsV RL 138 RX1 yX1_endOf wsX1_endOf) := goodIn_app (goodIn_of _ (by decide +kernel)) ggL_law_X1_endOf
set_option maxRecDepth 20000 in
theorem ggL_law_L_whyNoUse : GoodIn wsL_law wsL_whyNoUse := goodIn_ca (goodIn_r _ [342, 82, 343, 344, 345, 2, 346, 281, 282, 18, 19, 17, 213, 214, 215, 216, 91, 92, 169, 87, 88, 89, 90, 51, 112, 113, 114, 59, 60, 61, 176, 177, 178, 179, 15, 52, 161, 162, 163, 164, 180, 181, 182, 183, 170, 14, 566, 567, 568, 569, 570, 571, 572, 573, 574, 575, 576, 577, 578, 579, 580, 581] (by decide +kernel) (by decide +kernel)) (goodIn_sub (fun _ h => List.mem_append_right _ h) (by decide +kernel))
set_option maxRecDepth 20000 in
theorem gL_law_L_whyNoUse : GoodIn wsL_law (va_wsS RL 139 yL_whyNoUse wsL_whyNoUse) := goodIn_app (goodIn_of _ (by decide +kernel)) ggL_law_L_whyNoUse
set_option maxRecDepth 20000 in
theorem ggL_law_X1_whyNoUse : GoodIn wsL_law wsX1_whyNoUse := goodIn_r _ [350, 66, 221, 222, 223, 5, 224, 188, 68, 69, 70, 97, 98, 99, 100, 67, 351, 352, 353, 354, 36, 34, 189, 35, 27, 122, 123, 124, 225, 226, 227, 228, 33, 32, 229, 230, 231, 232, 198, 199, 200, 201, 29, 30, 71, 72, 73, 74, 582, 583, 584, 585, 586, 587, 588, 589, 590, 591, 592, 593, 594, 595, 596] (by decide +kernel) (by decide +kernel)
set_option maxRecDepth 20000 in
theorem gL_law_X1_whyNoUse : GoodIn wsL_law (wsV RL 141 RX1 yX1_whyNoUse wsX1_whyNoUse) := goodIn_app (goodIn_of _ (by decide +kernel)) ggL_law_X1_whyNoUse
set_option maxRecDepth 20000 in
theorem ggL_law_L_use : GoodIn wsL_law wsL_use := goodIn_ca (goodIn_ca (goodIn_r _ [357, 82, 44, 358, 359, 360, 2, 361, 49, 50, 21, 362, 344, 345, 346, 281, 282, 18, 19, 17, 213, 214, 215, 216, 91, 92, 169, 87, 88, 89, 90, 51, 112, 113, 114, 59, 60, 61, 176, 177, 178, 179, 15, 52, 161, 162, 163, 164, 180, 181, 182, 183, 170, 14, 363, 364, 365, 566, 567, 568, 569, 570, 571, 572, 573, 574, 575, 576, 577, 578, 579, 580, 581] (by decide +kernel) (by decide +kernel)) (goodIn_sub (fun _ h => List.mem_append_left _ (List.mem_append_left _ (List.mem_append_right _ h))) (by decide +kernel))) (goodIn_sub (fun _ h => List.mem_append_right _ h) (by decide +kernel))
set_option maxRecDepth 20000 in
theorem gL_law_L_use : GoodIn wsL_law (va_wsS RL 142 yL_use wsL_use) := goodIn_app (goodIn_of _ (by decide +kernel)) ggL_law_L_use
set_option maxRecDepth 20000 in
theorem ggL_law_X1_use : GoodIn wsL_law wsX1_use := goodIn_r _ [369, 66, 37, 221, 222, 223, 5, 224, 188, 68, 69, 70, 97, 98, 99, 100, 67, 71, 72, 73, 74, 351, 352, 353, 354, 36, 34, 189, 35, 27, 122, 123, 124, 225, 226, 227, 228, 33, 32, 229, 230, 231, 232, 198, 199, 200, 201, 29, 30, 582, 583, 584, 585, 586, 587, 588, 589, 590, 591, 592, 593, 594, 595, 596] (by decide +kernel) (by decide +kernel)
set_option maxRecDepth 20000 in
theorem gL_law_X1_use : GoodIn wsL_law (wsV RL 144 RX1 yX1_use wsX1_use) := goodIn_app (goodIn_of _ (by decide +kernel)) ggL_law_X1_use
set_option maxRecDepth 20000 in
theorem ggL_law_L_uses : GoodIn wsL_law wsL_uses := goodIn_ca (goodIn_r _ [372, 82, 373, 374, 375, 2, 376, 169, 19, 21, 108, 109, 110, 111, 91, 92, 87, 88, 89, 90, 51, 112, 113, 114, 59, 60, 61, 363, 364, 365, 566, 567, 568, 569, 570, 571, 572, 573, 574, 575, 576, 577, 578, 579, 580, 581] (by decide +kernel) (by decide +kernel)) (goodIn_sub (fun _ h => List.mem_append_right _ h) (by decide +kernel))
set_option maxRecDepth 20000 in
theorem gL_law_L_uses : GoodIn wsL_law (va_wsS RL 145 yL_uses wsL_uses) := goodIn_app (goodIn_of _ (by decide +kernel)) ggL_law_L_uses
set_option maxRecDepth 20000 in
theorem ggL_law_X1_uses : GoodIn wsL_law wsX1_uses := goodIn_r _ [380, 66, 188, 37, 119, 120, 5, 121, 68, 69, 70, 97, 98, 99, 100, 67, 71, 72, 73, 74, 225, 226, 227, 228, 33, 32, 229, 230, 231, 232, 122, 123, 124, 582, 583, 584, 585, 586, 587, 588, 589, 590, 591, 592, 593, 594, 595, 596] (by decide +kernel) (by decide +kernel)
set_option maxRecDepth 20000 in
theorem gL_law_X1_uses : GoodIn wsL_law (wsV RL 147 RX1 yX1_uses wsX1_uses) := goodIn_app (goodIn_of _ (by decide +kernel)) ggL_law_X1_uses
set_option maxRecDepth 20000 in
theorem ggL_law_L_passDays : GoodIn wsL_law wsL_passDays := goodIn_ca (goodIn_r _ [383, 43, 384, 385, 386, 2, 387, 57, 58, 170, 388, 389, 390, 391, 51, 15, 16, 112, 113, 114, 59, 60, 61, 143, 144, 145, 392, 393, 394, 395, 169, 171, 18, 19, 17, 172, 173, 174, 175, 176, 177, 178, 179, 52, 161, 162, 163, 164, 180, 181, 182, 183, 14, 396, 397, 398, 399, 282, 244, 245, 246, 247, 20, 252, 253, 254, 255, 256, 257, 258, 566, 567, 568, 569, 570, 571, 572, 573, 574, 575, 576, 577, 578, 579, 580, 581] (by decide +kernel) (by decide +kernel)) (goodIn_sub (fun _ h => List.mem_append_left _ (List.mem_append_right _ h)) (by decide +kernel))
set_option maxRecDepth 20000 in
theorem gL_law_L_passDays : GoodIn wsL_law (va_wsS RL 148 yL_passDays wsL_passDays) := goodIn_app (goodIn_of _ (by decide +kernel)) ggL_law_L_passDays
set_option maxRecDepth 20000 in
theorem ggL_law_X1_passDays : GoodIn wsL_law wsX1_passDays := goodIn_r _ [403, 66, 31, 30, 189, 188, 68, 69, 5, 70, 71, 72, 73, 74, 122, 123, 124, 404, 405, 406, 407, 36, 336, 337, 338, 339, 34, 35, 225, 226, 227, 228, 33, 32, 229, 230, 231, 232, 194, 195, 196, 197, 67, 27, 198, 199, 200, 201, 29, 408, 409, 410, 411, 313, 314, 315, 316, 582, 583, 584, 585, 586, 587, 588, 589, 590, 591, 592, 593, 594, 595, 596] (by decide +kernel) (by decide +kernel)
set_option maxRecDepth 20000 in
theorem gL_law_X1_passDays : GoodIn wsL_law (wsV RL 150 RX1 yX1_passDays wsX1_passDays) := goodIn_app (goodIn_of _ (by decide +kernel)) ggL_law_X1_passDays
set_option maxRecDepth 20000 in
theorem ggL_law_X0_day : GoodIn wsL_law wsX0_day := goodIn_r _ [415, 170, 566, 567, 568, 569, 570, 571, 572, 573, 574, 575, 576, 577, 578, 579, 580, 581] (by decide +kernel) (by decide +kernel)
set_option maxRecDepth 20000 in
theorem gL_law_X0_day : GoodIn wsL_law (wsV RL 151 RX0 yX0_day wsX0_day) := goodIn_app (goodIn_of _ (by decide +kernel)) ggL_law_X0_day
set_option maxRecDepth 20000 in
theorem ggL_law_X1_day : GoodIn wsL_law wsX1_day := goodIn_r _ [419, 66, 189, 582, 583, 584, 585, 586, 587, 588, 589, 590, 591, 592, 593, 594, 595, 596] (by decide +kernel) (by decide +kernel)
set_option maxRecDepth 20000 in
theorem gL_law_X1_day : GoodIn wsL_law (wsV RL 154 RX1 yX1_day wsX1_day) := goodIn_app (goodIn_of _ (by decide +kernel)) ggL_law_X1_day
set_option maxRecDepth 20000 in
theorem ggL_law_X0_nextEnd : GoodIn wsL_law wsX0_nextEnd := goodIn_r _ [423, 169, 171, 424, 425, 330, 426, 112, 113, 2, 114, 59, 60, 61, 324, 325, 326, 327, 18, 19, 51, 14, 328, 329, 331, 17, 176, 177, 178, 179, 15, 52, 161, 162, 163, 164, 566, 567, 568, 569, 570, 571, 572, 573, 574, 575, 576, 577, 578, 579, 580, 581] (by decide +kernel) (by decide +kernel)
set_option maxRecDepth 20000 in
theorem gL_law_X0_nextEnd : GoodIn wsL_law (wsV RL 155 RX0 yX0_nextEnd wsX0_nextEnd) := goodIn_app (goodIn_of _ (by decide +kernel)) ggL_law_X0_nextEnd
set_option maxRecDepth 20000 in
theorem ggL_law_X1_nextEnd : GoodIn wsL_law wsX1_nextEnd := goodIn_r _ [430, 66, 188, 36, 336, 337, 338, 5, 339, 34, 35, 225, 226, 227, 228, 33, 32, 229, 230, 231, 232, 122, 123, 124, 194, 195, 196, 197, 67, 27, 198, 199, 200, 201, 29, 30, 582, 583, 584, 585, 586, 587, 588, 589, 590, 591, 592, 593, 594, 595, 596] (by decide +kernel) (by decide +kernel)
set_option maxRecDepth 20000 in
theorem gL_law_X1_nextEnd : GoodIn wsL_law (wsV RL 158 RX1 yX1_nextEnd wsX1_nextEnd) := goodIn_app (goodIn_of _ (by decide +kernel)) ggL_law_X1_nextEnd
set_option maxRecDepth 20000 in
theorem ggL_law_L_hold : GoodIn wsL_law wsL_hold := goodIn_ca (goodIn_ca (goodIn_r _ [433, 82, 44, 434, 435, 436, 2, 437, 49, 50, 281, 22, 438, 439, 440, 441, 91, 92, 213, 214, 215, 216, 169, 112, 113, 114, 59, 60, 61, 252, 253, 254, 255, 256, 257, 258, 566, 567, 568, 569, 570, 571, 572, 573, 574, 575, 576, 577, 578, 579, 580, 581] (by decide +kernel) (by decide +kernel)) (goodIn_sub (fun _ h => List.mem_append_left _ (List.mem_append_left _ (List.mem_append_right _ h))) (by decide +kernel))) (goodIn_sub (fun _ h => List.mem_append_right _ h) (by decide +kernel))
set_option maxRecDepth 20000 in
theorem gL_law_L_hold : GoodIn wsL_law (va_wsS RL 159 yL_hold wsL_hold) := goodIn_app (goodIn_of _ (by decide +kernel)) ggL_law_L_hold
set_option maxRecDepth 20000 in
theorem ggL_law_X1_hold : GoodIn wsL_law wsX1_hold := goodIn_r _ [445, 66, 36, 38, 68, 69, 5, 70, 221, 222, 223, 224, 188, 71, 72, 73, 74, 122, 123, 124, 263, 264, 265, 582, 583, 584, 585, 586, 587, 588, 589, 590, 591, 592, 593, 594, 595, 596] (by decide +kernel) (by decide +kernel)
set_option maxRecDepth 20000 in
theorem gL_law_X1_hold : GoodIn wsL_law (wsV RL 161 RX1 yX1_hold wsX1_hold) := goodIn_app (goodIn_of _ (by decide +kernel)) ggL_law_X1_hold
set_option maxRecDepth 20000 in
theorem ggL_law_L_close : GoodIn wsL_law wsL_close := goodIn_ca (goodIn_r _ [448, 82, 449, 450, 451, 2, 452, 22, 438, 439, 440, 441, 91, 92, 453, 454, 455, 456, 252, 253, 254, 255, 256, 257, 258, 566, 567, 568, 569, 570, 571, 572, 573, 574, 575, 576, 577, 578, 579, 580, 581] (by decide +kernel) (by decide +kernel)) (goodIn_sub (fun _ h => List.mem_append_right _ h) (by decide +kernel))
set_option maxRecDepth 20000 in
theorem gL_law_L_close : GoodIn wsL_law (va_wsS RL 162 yL_close wsL_close) := goodIn_app (goodIn_of _ (by decide +kernel)) ggL_law_L_close
set_option maxRecDepth 20000 in
theorem ggL_law_X1_close : GoodIn wsL_law wsX1_close := goodIn_r _ [460, 66, 38, 68, 69, 5, 70, 71, 72, 73, 74, 461, 462, 463, 464, 263, 264, 265, 582, 583, 584, 585, 586, 587, 588, 589, 590, 591, 592, 593, 594, 595, 596] (by decide +kernel) (by decide +kernel)
set_option maxRecDepth 20000 in
theorem gL_law_X1_close : GoodIn wsL_law (wsV RL 164 RX1 yX1_close wsX1_close) := goodIn_app (goodIn_of _ (by decide +kernel)) ggL_law_X1_close
set_option maxRecDepth 20000 in
theorem ggL_law_X0_held : GoodIn wsL_law wsX0_held := goodIn_r _ [468, 453, 454, 455, 2, 456, 22, 566, 567, 568, 569, 570, 571, 572, 573, 574, 575, 576, 577, 578, 579, 580, 581] (by decide +kernel) (by decide +kernel)
set_option maxRecDepth 20000 in
theorem gL_law_X0_held : GoodIn wsL_law (wsV RL 165 RX0 yX0_held wsX0_held) := goodIn_app (goodIn_of _ (by decide +kernel)) ggL_law_X0_held
set_option maxRecDepth 20000 in
theorem ggL_law_X1_held : GoodIn wsL_law wsX1_held := goodIn_r _ [472, 66, 461, 462, 463, 5, 464, 38, 582, 583, 584, 585, 586, 587, 588, 589, 590, 591, 592, 593, 594, 595, 596] (by decide +kernel) (by decide +kernel)
set_option maxRecDepth 20000 in
theorem gL_law_X1_held : GoodIn wsL_law (wsV RL 168 RX1 yX1_held wsX1_held) := goodIn_app (goodIn_of _ (by decide +kernel)) ggL_law_X1_held
set_option maxRecDepth 20000 in
theorem ggL_law_L_request : GoodIn wsL_law wsL_request := goodIn_ca (goodIn_r _ [475, 82, 476, 477, 478, 2, 479, 171, 108, 109, 110, 111, 91, 92, 480, 481, 482, 483, 169, 19, 112, 113, 114, 59, 60, 61, 396, 397, 398, 399, 282, 244, 245, 246, 247, 20, 252, 253, 254, 255, 256, 257, 258, 566, 567, 568, 569, 570, 571, 572, 573, 574, 575, 576, 577, 578, 579, 580, 581] (by decide +kernel) (by decide +kernel)) (goodIn_sub (fun _ h => List.mem_append_right _ h) (by decide +kernel))
set_option maxRecDepth 20000 in
theorem gL_law_L_request : GoodIn wsL_law (va_wsS RL 169 yL_request wsL_request) := goodIn_app (goodIn_of _ (by decide +kernel)) ggL_law_L_request
set_option maxRecDepth 20000 in
theorem ggL_law_X1_request : GoodIn wsL_law wsX1_request := goodIn_r _ [487, 66, 188, 119, 120, 5, 121, 68, 69, 70, 71, 72, 73, 74, 225, 226, 227, 228, 33, 32, 229, 230, 231, 232, 122, 123, 124, 408, 409, 410, 411, 36, 313, 314, 315, 316, 582, 583, 584, 585, 586, 587, 588, 589, 590, 591, 592, 593, 594, 595, 596] (by decide +kernel) (by decide +kernel)
set_option maxRecDepth 20000 in
theorem gL_law_X1_request : GoodIn wsL_law (wsV RL 171 RX1 yX1_request wsX1_request) := goodIn_app (goodIn_of _ (by decide +kernel)) ggL_law_X1_request
set_option maxRecDepth 20000 in
theorem ggL_law_L_whyKept : GoodIn wsL_law wsL_whyKept := goodIn_ca (goodIn_r _ [490, 82, 491, 492, 493, 2, 494, 281, 171, 213, 214, 215, 216, 91, 92, 169, 112, 113, 114, 59, 60, 61, 453, 454, 455, 456, 22, 305, 306, 307, 308, 244, 245, 246, 247, 20, 566, 567, 568, 569, 570, 571, 572, 573, 574, 575, 576, 577, 578, 579, 580, 581] (by decide +kernel) (by decide +kernel)) (goodIn_sub (fun _ h => List.mem_append_right _ h) (by decide +kernel))
set_option maxRecDepth 20000 in
theorem gL_law_L_whyKept : GoodIn wsL_law (va_wsS RL 172 yL_whyKept wsL_whyKept) := goodIn_app (goodIn_of _ (by decide +kernel)) ggL_law_L_whyKept
set_option maxRecDepth 20000 in
theorem ggL_law_X1_whyKept : GoodIn wsL_law wsX1_whyKept := goodIn_r _ [498, 66, 221, 222, 223, 5, 224, 188, 68, 69, 70, 499, 500, 501, 502, 36, 461, 462, 463, 464, 38, 122, 123, 124, 313, 314, 315, 316, 33, 71, 72, 73, 74, 582, 583, 584, 585, 586, 587, 588, 589, 590, 591, 592, 593, 594, 595, 596] (by decide +kernel) (by decide +kernel)
set_option maxRecDepth 20000 in
theorem gL_law_X1_whyKept : GoodIn wsL_law (wsV RL 174 RX1 yX1_whyKept wsX1_whyKept) := goodIn_app (goodIn_of _ (by decide +kernel)) ggL_law_X1_whyKept
set_option maxRecDepth 20000 in
theorem ggL_law_X0_erase : GoodIn wsL_law wsX0_erase := goodIn_ca (goodIn_r _ [506, 169, 507, 492, 493, 2, 494, 281, 171, 213, 214, 215, 216, 91, 92, 112, 113, 114, 59, 60, 61, 453, 454, 455, 456, 22, 305, 306, 307, 308, 244, 245, 246, 247, 20, 508, 509, 510, 511, 282, 566, 567, 568, 569, 570, 571, 572, 573, 574, 575, 576, 577, 578, 579, 580, 581] (by decide +kernel) (by decide +kernel)) (goodIn_sub (fun _ h => List.mem_append_right _ h) (by decide +kernel))
set_option maxRecDepth 20000 in
theorem gL_law_X0_erase : GoodIn wsL_law (wsV RL 175 RX0 yX0_erase wsX0_erase) := goodIn_app (goodIn_of _ (by decide +kernel)) ggL_law_X0_erase
set_option maxRecDepth 20000 in
theorem ggL_law_X1_erase : GoodIn wsL_law wsX1_erase := goodIn_r _ [515, 66, 516, 517, 518, 5, 519, 188, 36, 499, 500, 501, 502, 461, 462, 463, 464, 38, 122, 123, 124, 313, 314, 315, 316, 33, 582, 583, 584, 585, 586, 587, 588, 589, 590, 591, 592, 593, 594, 595, 596] (by decide +kernel) (by decide +kernel)
set_option maxRecDepth 20000 in
theorem gL_law_X1_erase : GoodIn wsL_law (wsV RL 178 RX1 yX1_erase wsX1_erase) := goodIn_app (goodIn_of _ (by decide +kernel)) ggL_law_X1_erase
set_option maxRecDepth 20000 in
theorem ggL_law_X0_eraseAll : GoodIn wsL_law wsX0_eraseAll := goodIn_ca (goodIn_r _ [523, 169, 507, 492, 493, 2, 494, 281, 171, 213, 214, 215, 216, 91, 92, 112, 113, 114, 59, 60, 61, 453, 454, 455, 456, 22, 305, 306, 307, 308, 244, 245, 246, 247, 20, 508, 509, 510, 511, 282, 566, 567, 568, 569, 570, 571, 572, 573, 574, 575, 576, 577, 578, 579, 580, 581] (by decide +kernel) (by decide +kernel)) (goodIn_sub (fun _ h => List.mem_append_right _ h) (by decide +kernel))
set_option maxRecDepth 20000 in
theorem gL_law_X0_eraseAll : GoodIn wsL_law (wsV RL 179 RX0 yX0_eraseAll wsX0_eraseAll) := goodIn_app (goodIn_of _ (by decide +kernel)) ggL_law_X0_eraseAll
set_option maxRecDepth 20000 in
theorem ggL_law_X1_eraseAll : GoodIn wsL_law wsX1_eraseAll := goodIn_r _ [527, 66, 516, 517, 518, 5, 519, 188, 36, 499, 500, 501, 502, 461, 462, 463, 464, 38, 122, 123, 124, 313, 314, 315, 316, 33, 582, 583, 584, 585, 586, 587, 588, 589, 590, 591, 592, 593, 594, 595, 596] (by decide +kernel) (by decide +kernel)
set_option maxRecDepth 20000 in
theorem gL_law_X1_eraseAll : GoodIn wsL_law (wsV RL 182 RX1 yX1_eraseAll wsX1_eraseAll) := goodIn_app (goodIn_of _ (by decide +kernel)) ggL_law_X1_eraseAll
set_option maxRecDepth 20000 in
theorem ggL_law_L_traces : GoodIn wsL_law wsL_traces := goodIn_ca (goodIn_r _ [530, 82, 531, 532, 533, 2, 534, 281, 108, 109, 110, 111, 91, 92, 480, 481, 482, 483, 169, 19, 112, 113, 114, 59, 60, 61, 566, 567, 568, 569, 570, 571, 572, 573, 574, 575, 576, 577, 578, 579, 580, 581] (by decide +kernel) (by decide +kernel)) (goodIn_sub (fun _ h => List.mem_append_right _ h) (by decide +kernel))
set_option maxRecDepth 20000 in
theorem gL_law_L_traces : GoodIn wsL_law (va_wsS RL 183 yL_traces wsL_traces) := goodIn_app (goodIn_of _ (by decide +kernel)) ggL_law_L_traces
set_option maxRecDepth 20000 in
theorem ggL_law_X1_traces : GoodIn wsL_law wsX1_traces := goodIn_r _ [538, 66, 119, 120, 5, 121, 68, 69, 70, 539, 540, 541, 542, 188, 36, 225, 226, 227, 228, 33, 32, 229, 230, 231, 232, 122, 123, 124, 71, 72, 73, 74, 582, 583, 584, 585, 586, 587, 588, 589, 590, 591, 592, 593, 594, 595, 596] (by decide +kernel) (by decide +kernel)
set_option maxRecDepth 20000 in
theorem gL_law_X1_traces : GoodIn wsL_law (wsV RL 185 RX1 yX1_traces wsX1_traces) := goodIn_app (goodIn_of _ (by decide +kernel)) ggL_law_X1_traces
set_option maxRecDepth 20000 in
theorem ggL_law_L_tracesFromRoots : GoodIn wsL_law wsL_tracesFromRoots := goodIn_ca (goodIn_r _ [545, 82, 546, 547, 548, 2, 549, 281, 108, 109, 110, 111, 91, 92, 550, 551, 552, 553, 169, 19, 240, 241, 242, 243, 20, 112, 113, 114, 59, 60, 61, 244, 245, 246, 247, 566, 567, 568, 569, 570, 571, 572, 573, 574, 575, 576, 577, 578, 579, 580, 581] (by decide +kernel) (by decide +kernel)) (goodIn_sub (fun _ h => List.mem_append_right _ h) (by decide +kernel))
set_option maxRecDepth 20000 in
theorem gL_law_L_tracesFromRoots : GoodIn wsL_law (va_wsS RL 186 yL_tracesFromRoots wsL_tracesFromRoots) := goodIn_app (goodIn_of _ (by decide +kernel)) ggL_law_L_tracesFromRoots
set_option maxRecDepth 20000 in
theorem ggL_law_X1_tracesFromRoots : GoodIn wsL_law wsX1_tracesFromRoots := goodIn_r _ [557, 66, 119, 120, 5, 121, 68, 69, 70, 539, 540, 541, 542, 188, 36, 225, 226, 227, 228, 33, 32, 229, 230, 231, 232, 122, 123, 124, 71, 72, 73, 74, 582, 583, 584, 585, 586, 587, 588, 589, 590, 591, 592, 593, 594, 595, 596] (by decide +kernel) (by decide +kernel)
set_option maxRecDepth 20000 in
theorem gL_law_X1_tracesFromRoots : GoodIn wsL_law (wsV RL 188 RX1 yX1_tracesFromRoots wsX1_tracesFromRoots) := goodIn_app (goodIn_of _ (by decide +kernel)) ggL_law_X1_tracesFromRoots
