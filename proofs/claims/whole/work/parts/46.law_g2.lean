set_option maxRecDepth 20000 in
theorem ggL_law_X2_standard : GoodIn wsL_law wsX2_standard := goodIn_r _ [276, 116, 249, 250, 251, 5, 252, 85, 706, 707, 708, 709, 710, 711, 712, 713, 714, 715, 716, 717, 718, 719] (by decide +kernel) (by decide +kernel)
set_option maxRecDepth 20000 in
theorem gL_law_X2_standard : GoodIn wsL_law (wsV RL 157 RX2 yX2_standard wsX2_standard) := goodIn_app (goodIn_of _ (by decide +kernel)) ggL_law_X2_standard
set_option maxRecDepth 20000 in
theorem ggL_law_X1_tolerance : GoodIn wsL_law wsX1_tolerance := goodIn_r _ [280, 21, 697, 698, 699, 700, 701, 702, 703, 704, 705, 720, 721, 722, 723, 724] (by decide +kernel) (by decide +kernel)
set_option maxRecDepth 20000 in
theorem gL_law_X1_tolerance : GoodIn wsL_law (wsV RL 158 RX1 yX1_tolerance wsX1_tolerance) := goodIn_app (goodIn_of _ (by decide +kernel)) ggL_law_X1_tolerance
set_option maxRecDepth 20000 in
theorem ggL_law_X2_tolerance : GoodIn wsL_law wsX2_tolerance := goodIn_r _ [284, 42, 249, 250, 251, 5, 252, 85, 706, 707, 708, 709, 710, 711, 712, 713, 714, 715, 716, 717, 718, 719] (by decide +kernel) (by decide +kernel)
set_option maxRecDepth 20000 in
theorem gL_law_X2_tolerance : GoodIn wsL_law (wsV RL 161 RX2 yX2_tolerance wsX2_tolerance) := goodIn_app (goodIn_of _ (by decide +kernel)) ggL_law_X2_tolerance
set_option maxRecDepth 20000 in
theorem ggL_law_X1_fines : GoodIn wsL_law wsX1_fines := goodIn_r _ [288, 180, 697, 698, 699, 700, 701, 702, 703, 704, 705] (by decide +kernel) (by decide +kernel)
set_option maxRecDepth 20000 in
theorem gL_law_X1_fines : GoodIn wsL_law (wsV RL 162 RX1 yX1_fines wsX1_fines) := goodIn_app (goodIn_of _ (by decide +kernel)) ggL_law_X1_fines
set_option maxRecDepth 20000 in
theorem ggL_law_X2_fines : GoodIn wsL_law wsX2_fines := goodIn_r _ [292, 43, 249, 250, 251, 5, 252, 85, 706, 707, 708, 709, 710, 711, 712, 713, 714, 715, 716, 717, 718, 719] (by decide +kernel) (by decide +kernel)
set_option maxRecDepth 20000 in
theorem gL_law_X2_fines : GoodIn wsL_law (wsV RL 165 RX2 yX2_fines wsX2_fines) := goodIn_app (goodIn_of _ (by decide +kernel)) ggL_law_X2_fines
set_option maxRecDepth 20000 in
theorem ggL_law_L_baseOf : GoodIn wsL_law wsL_baseOf := goodIn_ca (goodIn_r _ [295, 49, 296, 297, 298, 2, 299, 14, 60, 61, 62, 63, 64, 65, 23, 66, 67, 68, 697, 698, 699, 700, 701, 702, 703, 704, 705] (by decide +kernel) (by decide +kernel)) (goodIn_sub (fun _ h => List.mem_append_right _ h) (by decide +kernel))
set_option maxRecDepth 20000 in
theorem gL_law_L_baseOf : GoodIn wsL_law (va_wsS RL 166 yL_baseOf wsL_baseOf) := goodIn_app (goodIn_of _ (by decide +kernel)) ggL_law_L_baseOf
set_option maxRecDepth 20000 in
theorem ggL_law_X2_baseOf : GoodIn wsL_law wsX2_baseOf := goodIn_r _ [303, 85, 36, 86, 87, 88, 5, 89, 35, 90, 91, 92, 93, 94, 95, 96, 706, 707, 708, 709, 710, 711, 712, 713, 714, 715, 716, 717, 718, 719] (by decide +kernel) (by decide +kernel)
set_option maxRecDepth 20000 in
theorem gL_law_X2_baseOf : GoodIn wsL_law (wsV RL 168 RX2 yX2_baseOf wsX2_baseOf) := goodIn_app (goodIn_of _ (by decide +kernel)) ggL_law_X2_baseOf
set_option maxRecDepth 20000 in
theorem ggL_law_L_stepsToEll : GoodIn wsL_law wsL_stepsToEll := goodIn_ca (goodIn_r _ [306, 49, 307, 308, 309, 2, 310, 15, 60, 61, 62, 63, 64, 65, 23, 66, 67, 68, 697, 698, 699, 700, 701, 702, 703, 704, 705] (by decide +kernel) (by decide +kernel)) (goodIn_sub (fun _ h => List.mem_append_right _ h) (by decide +kernel))
set_option maxRecDepth 20000 in
theorem gL_law_L_stepsToEll : GoodIn wsL_law (va_wsS RL 169 yL_stepsToEll wsL_stepsToEll) := goodIn_app (goodIn_of _ (by decide +kernel)) ggL_law_L_stepsToEll
set_option maxRecDepth 20000 in
theorem ggL_law_X2_stepsToEll : GoodIn wsL_law wsX2_stepsToEll := goodIn_r _ [314, 85, 36, 86, 87, 88, 5, 89, 35, 90, 91, 92, 93, 94, 95, 96, 706, 707, 708, 709, 710, 711, 712, 713, 714, 715, 716, 717, 718, 719] (by decide +kernel) (by decide +kernel)
set_option maxRecDepth 20000 in
theorem gL_law_X2_stepsToEll : GoodIn wsL_law (wsV RL 171 RX2 yX2_stepsToEll wsX2_stepsToEll) := goodIn_app (goodIn_of _ (by decide +kernel)) ggL_law_X2_stepsToEll
set_option maxRecDepth 20000 in
theorem ggL_law_L_lengthTop : GoodIn wsL_law wsL_lengthTop := goodIn_ca (goodIn_r _ [317, 49, 318, 319, 320, 2, 321, 16, 24, 60, 61, 62, 63, 64, 65, 23, 66, 67, 68, 322, 323, 324, 325, 326, 327, 328, 329, 330, 697, 698, 699, 700, 701, 702, 703, 704, 705] (by decide +kernel) (by decide +kernel)) (goodIn_sub (fun _ h => List.mem_append_right _ h) (by decide +kernel))
set_option maxRecDepth 20000 in
theorem gL_law_L_lengthTop : GoodIn wsL_law (va_wsS RL 172 yL_lengthTop wsL_lengthTop) := goodIn_app (goodIn_of _ (by decide +kernel)) ggL_law_L_lengthTop
set_option maxRecDepth 20000 in
theorem ggL_law_X2_lengthTop : GoodIn wsL_law wsX2_lengthTop := goodIn_r _ [334, 85, 116, 86, 87, 88, 5, 89, 35, 90, 91, 92, 335, 336, 337, 338, 39, 339, 340, 341, 93, 94, 95, 96, 706, 707, 708, 709, 710, 711, 712, 713, 714, 715, 716, 717, 718, 719] (by decide +kernel) (by decide +kernel)
set_option maxRecDepth 20000 in
theorem gL_law_X2_lengthTop : GoodIn wsL_law (wsV RL 174 RX2 yX2_lengthTop wsX2_lengthTop) := goodIn_app (goodIn_of _ (by decide +kernel)) ggL_law_X2_lengthTop
set_option maxRecDepth 20000 in
theorem ggL_law_L_lengthBottom : GoodIn wsL_law wsL_lengthBottom := goodIn_ca (goodIn_r _ [344, 49, 345, 346, 347, 2, 348, 16, 24, 60, 61, 62, 63, 64, 65, 23, 66, 67, 68, 322, 323, 324, 325, 326, 327, 328, 329, 330, 697, 698, 699, 700, 701, 702, 703, 704, 705] (by decide +kernel) (by decide +kernel)) (goodIn_sub (fun _ h => List.mem_append_right _ h) (by decide +kernel))
set_option maxRecDepth 20000 in
theorem gL_law_L_lengthBottom : GoodIn wsL_law (va_wsS RL 175 yL_lengthBottom wsL_lengthBottom) := goodIn_app (goodIn_of _ (by decide +kernel)) ggL_law_L_lengthBottom
