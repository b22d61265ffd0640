set_option maxRecDepth 20000 in
theorem ggL_law_X2_lengthBottom : GoodIn wsL_law wsX2_lengthBottom := goodIn_r _ [352, 85, 116, 86, 87, 88, 5, 89, 35, 90, 91, 92, 335, 336, 337, 338, 39, 339, 340, 341, 93, 94, 95, 96, 706, 707, 708, 709, 710, 711, 712, 713, 714, 715, 716, 717, 718, 719] (by decide +kernel) (by decide +kernel)
set_option maxRecDepth 20000 in
theorem gL_law_X2_lengthBottom : GoodIn wsL_law (wsV RL 177 RX2 yX2_lengthBottom wsX2_lengthBottom) := goodIn_app (goodIn_of _ (by decide +kernel)) ggL_law_X2_lengthBottom
set_option maxRecDepth 20000 in
theorem ggL_law_L_isLonger : GoodIn wsL_law wsL_isLonger := goodIn_ca (goodIn_r _ [355, 49, 356, 357, 358, 2, 359, 16, 60, 61, 62, 63, 64, 65, 23, 66, 67, 68, 697, 698, 699, 700, 701, 702, 703, 704, 705] (by decide +kernel) (by decide +kernel)) (goodIn_sub (fun _ h => List.mem_append_right _ h) (by decide +kernel))
set_option maxRecDepth 20000 in
theorem gL_law_L_isLonger : GoodIn wsL_law (va_wsS RL 178 yL_isLonger wsL_isLonger) := goodIn_app (goodIn_of _ (by decide +kernel)) ggL_law_L_isLonger
set_option maxRecDepth 20000 in
theorem ggL_law_X2_isLonger : GoodIn wsL_law wsX2_isLonger := goodIn_r _ [363, 85, 39, 86, 87, 88, 5, 89, 35, 90, 91, 92, 706, 707, 708, 709, 710, 711, 712, 713, 714, 715, 716, 717, 718, 719] (by decide +kernel) (by decide +kernel)
set_option maxRecDepth 20000 in
theorem gL_law_X2_isLonger : GoodIn wsL_law (wsV RL 180 RX2 yX2_isLonger wsX2_isLonger) := goodIn_app (goodIn_of _ (by decide +kernel)) ggL_law_X2_isLonger
set_option maxRecDepth 20000 in
theorem ggL_law_X1_longest : GoodIn wsL_law wsX1_longest := goodIn_r _ [367, 17, 697, 698, 699, 700, 701, 702, 703, 704, 705] (by decide +kernel) (by decide +kernel)
set_option maxRecDepth 20000 in
theorem gL_law_X1_longest : GoodIn wsL_law (wsV RL 181 RX1 yX1_longest wsX1_longest) := goodIn_app (goodIn_of _ (by decide +kernel)) ggL_law_X1_longest
set_option maxRecDepth 20000 in
theorem ggL_law_X2_longest : GoodIn wsL_law wsX2_longest := goodIn_r _ [371, 40, 249, 250, 251, 5, 252, 85, 706, 707, 708, 709, 710, 711, 712, 713, 714, 715, 716, 717, 718, 719] (by decide +kernel) (by decide +kernel)
set_option maxRecDepth 20000 in
theorem gL_law_X2_longest : GoodIn wsL_law (wsV RL 184 RX2 yX2_longest wsX2_longest) := goodIn_app (goodIn_of _ (by decide +kernel)) ggL_law_X2_longest
set_option maxRecDepth 20000 in
theorem ggL_law_X1_shortest : GoodIn wsL_law wsX1_shortest := goodIn_r _ [375, 23, 16, 697, 698, 699, 700, 701, 702, 703, 704, 705] (by decide +kernel) (by decide +kernel)
set_option maxRecDepth 20000 in
theorem gL_law_X1_shortest : GoodIn wsL_law (wsV RL 185 RX1 yX1_shortest wsX1_shortest) := goodIn_app (goodIn_of _ (by decide +kernel)) ggL_law_X1_shortest
set_option maxRecDepth 20000 in
theorem ggL_law_X2_shortest : GoodIn wsL_law wsX2_shortest := goodIn_r _ [379, 380, 381, 382, 5, 383, 35, 39, 249, 250, 251, 252, 85, 706, 707, 708, 709, 710, 711, 712, 713, 714, 715, 716, 717, 718, 719] (by decide +kernel) (by decide +kernel)
set_option maxRecDepth 20000 in
theorem gL_law_X2_shortest : GoodIn wsL_law (wsV RL 188 RX2 yX2_shortest wsX2_shortest) := goodIn_app (goodIn_of _ (by decide +kernel)) ggL_law_X2_shortest
set_option maxRecDepth 20000 in
theorem ggL_law_L_fewestToMeet : GoodIn wsL_law wsL_fewestToMeet := goodIn_ca (goodIn_r _ [386, 49, 387, 388, 389, 2, 390, 16, 60, 61, 62, 63, 64, 65, 23, 66, 67, 68, 322, 323, 324, 325, 326, 327, 328, 329, 330, 697, 698, 699, 700, 701, 702, 703, 704, 705] (by decide +kernel) (by decide +kernel)) (goodIn_sub (fun _ h => List.mem_append_right _ h) (by decide +kernel))
set_option maxRecDepth 20000 in
theorem gL_law_L_fewestToMeet : GoodIn wsL_law (va_wsS RL 189 yL_fewestToMeet wsL_fewestToMeet) := goodIn_app (goodIn_of _ (by decide +kernel)) ggL_law_L_fewestToMeet
set_option maxRecDepth 20000 in
theorem ggL_law_X2_fewestToMeet : GoodIn wsL_law wsX2_fewestToMeet := goodIn_r _ [394, 85, 86, 87, 88, 5, 89, 35, 90, 91, 92, 335, 336, 337, 338, 39, 339, 340, 341, 93, 94, 95, 96, 706, 707, 708, 709, 710, 711, 712, 713, 714, 715, 716, 717, 718, 719] (by decide +kernel) (by decide +kernel)
set_option maxRecDepth 20000 in
theorem gL_law_X2_fewestToMeet : GoodIn wsL_law (wsV RL 191 RX2 yX2_fewestToMeet wsX2_fewestToMeet) := goodIn_app (goodIn_of _ (by decide +kernel)) ggL_law_X2_fewestToMeet
set_option maxRecDepth 20000 in
theorem ggL_law_L_convert : GoodIn wsL_law wsL_convert := goodIn_ca (goodIn_ca (goodIn_r _ [397, 49, 50, 398, 399, 400, 2, 401, 16, 60, 61, 62, 63, 64, 65, 23, 66, 67, 68, 402, 403, 404, 56, 57, 328, 329, 330, 697, 698, 699, 700, 701, 702, 703, 704, 705] (by decide +kernel) (by decide +kernel)) (goodIn_sub (fun _ h => List.mem_append_right _ h) (by decide +kernel))) (goodIn_sub (fun _ h => List.mem_append_left _ (List.mem_append_left _ (List.mem_append_right _ h))) (by decide +kernel))
set_option maxRecDepth 20000 in
theorem gL_law_L_convert : GoodIn wsL_law (va_wsS RL 192 yL_convert wsL_convert) := goodIn_app (goodIn_of _ (by decide +kernel)) ggL_law_L_convert
set_option maxRecDepth 20000 in
theorem ggL_law_X2_convert : GoodIn wsL_law wsX2_convert := goodIn_r _ [408, 39, 409, 410, 411, 5, 412, 85, 86, 87, 88, 89, 35, 90, 91, 92, 706, 707, 708, 709, 710, 711, 712, 713, 714, 715, 716, 717, 718, 719] (by decide +kernel) (by decide +kernel)
set_option maxRecDepth 20000 in
theorem gL_law_X2_convert : GoodIn wsL_law (wsV RL 194 RX2 yX2_convert wsX2_convert) := goodIn_app (goodIn_of _ (by decide +kernel)) ggL_law_X2_convert
set_option maxRecDepth 20000 in
theorem ggL_law_L_isExact : GoodIn wsL_law wsL_isExact := goodIn_ca (goodIn_ca (goodIn_r _ [415, 49, 50, 416, 417, 418, 2, 419, 16, 60, 61, 62, 63, 64, 65, 23, 66, 67, 68, 402, 403, 404, 56, 57, 420, 421, 422, 697, 698, 699, 700, 701, 702, 703, 704, 705] (by decide +kernel) (by decide +kernel)) (goodIn_sub (fun _ h => List.mem_append_right _ h) (by decide +kernel))) (goodIn_sub (fun _ h => List.mem_append_left _ (List.mem_append_left _ (List.mem_append_right _ h))) (by decide +kernel))
set_option maxRecDepth 20000 in
theorem gL_law_L_isExact : GoodIn wsL_law (va_wsS RL 195 yL_isExact wsL_isExact) := goodIn_app (goodIn_of _ (by decide +kernel)) ggL_law_L_isExact
