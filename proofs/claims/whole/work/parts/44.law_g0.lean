set_option maxRecDepth 20000 in
theorem ggL_law_X1_init : GoodIn wsL_law wsX1_init := goodIn_r _ [9, 10, 11, 12, 13, 14, 15, 6, 16, 17, 18, 19, 20, 21, 22, 23, 24, 25, 26, 27, 28, 29, 30, 697, 698, 699, 700, 701, 702, 703, 704, 705, 720, 721, 722, 723, 724] (by decide +kernel) (by decide +kernel)
set_option maxRecDepth 20000 in
theorem gL_law_X1_init : GoodIn wsL_law (wsX1_init) := ggL_law_X1_init
set_option maxRecDepth 20000 in
theorem ggL_law_X2_init : GoodIn wsL_law wsX2_init := goodIn_r _ [33, 34, 11, 12, 35, 13, 36, 37, 38, 6, 39, 40, 41, 42, 43, 44, 706, 707, 708, 709, 710, 711, 712, 713, 714, 715, 716, 717, 718, 719] (by decide +kernel) (by decide +kernel)
set_option maxRecDepth 20000 in
theorem gL_law_X2_init : GoodIn wsL_law (wsX2_init) := ggL_law_X2_init
set_option maxRecDepth 20000 in
theorem ggL_law_L_addMeasure : GoodIn wsL_law wsL_addMeasure := goodIn_ca (goodIn_ca (goodIn_ca (goodIn_r _ [48, 49, 50, 51, 52, 53, 54, 2, 55, 56, 57, 58, 59, 23, 16, 14, 15, 60, 61, 62, 63, 64, 65, 66, 67, 68, 69, 70, 71, 72, 73, 74, 75, 76, 17, 77, 78, 79, 80, 697, 698, 699, 700, 701, 702, 703, 704, 705] (by decide +kernel) (by decide +kernel)) (goodIn_sub (fun _ h => List.mem_append_left _ (List.mem_append_left _ (List.mem_append_right _ h))) (by decide +kernel))) (goodIn_sub (fun _ h => List.mem_append_left _ (List.mem_append_right _ h)) (by decide +kernel))) (goodIn_sub (fun _ h => List.mem_append_right _ h) (by decide +kernel))
set_option maxRecDepth 20000 in
theorem gL_law_L_addMeasure : GoodIn wsL_law (va_wsS RL 112 yL_addMeasure wsL_addMeasure) := goodIn_app (goodIn_of _ (by decide +kernel)) ggL_law_L_addMeasure
set_option maxRecDepth 20000 in
theorem ggL_law_X2_addMeasure : GoodIn wsL_law wsX2_addMeasure := goodIn_r _ [84, 85, 35, 36, 37, 38, 86, 87, 88, 5, 89, 90, 91, 92, 93, 94, 95, 96, 97, 98, 99, 100, 39, 40, 706, 707, 708, 709, 710, 711, 712, 713, 714, 715, 716, 717, 718, 719] (by decide +kernel) (by decide +kernel)
set_option maxRecDepth 20000 in
theorem gL_law_X2_addMeasure : GoodIn wsL_law (wsV RL 117 RX2 yX2_addMeasure wsX2_addMeasure) := goodIn_app (goodIn_of _ (by decide +kernel)) ggL_law_X2_addMeasure
set_option maxRecDepth 20000 in
theorem ggL_law_X2_thrown : GoodIn wsL_law wsX2_thrown := goodIn_r _ [104, 85, 706, 707, 708, 709, 710, 711, 712, 713, 714, 715, 716, 717, 718, 719] (by decide +kernel) (by decide +kernel)
set_option maxRecDepth 20000 in
theorem gL_law_X2_thrown : GoodIn wsL_law (wsV RL 118 RX2 yX2_thrown wsX2_thrown) := goodIn_app (goodIn_of _ (by decide +kernel)) ggL_law_X2_thrown
set_option maxRecDepth 20000 in
theorem ggL_law_L_setStandard : GoodIn wsL_law wsL_setStandard := goodIn_ca (goodIn_r _ [107, 49, 108, 109, 110, 2, 111, 24, 60, 61, 62, 63, 64, 65, 23, 66, 67, 68, 697, 698, 699, 700, 701, 702, 703, 704, 705] (by decide +kernel) (by decide +kernel)) (goodIn_sub (fun _ h => List.mem_append_right _ h) (by decide +kernel))
set_option maxRecDepth 20000 in
theorem gL_law_L_setStandard : GoodIn wsL_law (va_wsS RL 122 yL_setStandard wsL_setStandard) := goodIn_app (goodIn_of _ (by decide +kernel)) ggL_law_L_setStandard
set_option maxRecDepth 20000 in
theorem ggL_law_X2_setStandard : GoodIn wsL_law wsX2_setStandard := goodIn_r _ [115, 85, 116, 86, 87, 88, 5, 89, 35, 90, 91, 92, 93, 94, 95, 96, 706, 707, 708, 709, 710, 711, 712, 713, 714, 715, 716, 717, 718, 719] (by decide +kernel) (by decide +kernel)
set_option maxRecDepth 20000 in
theorem gL_law_X2_setStandard : GoodIn wsL_law (wsV RL 125 RX2 yX2_setStandard wsX2_setStandard) := goodIn_app (goodIn_of _ (by decide +kernel)) ggL_law_X2_setStandard
set_option maxRecDepth 20000 in
theorem ggL_law_L_addStall : GoodIn wsL_law wsL_addStall := goodIn_ca (goodIn_ca (goodIn_r _ [119, 50, 51, 120, 121, 122, 2, 123, 58, 59, 21, 124, 125, 126, 56, 57, 66, 67, 68, 697, 698, 699, 700, 701, 702, 703, 704, 705, 720, 721, 722, 723, 724] (by decide +kernel) (by decide +kernel)) (goodIn_sub (fun _ h => List.mem_append_left _ (List.mem_append_right _ h)) (by decide +kernel))) (goodIn_sub (fun _ h => List.mem_append_left _ (List.mem_append_left _ (List.mem_append_right _ h))) (by decide +kernel))
set_option maxRecDepth 20000 in
theorem gL_law_L_addStall : GoodIn wsL_law (va_wsS RL 126 yL_addStall wsL_addStall) := goodIn_app (goodIn_of _ (by decide +kernel)) ggL_law_L_addStall
set_option maxRecDepth 20000 in
theorem ggL_law_X2_addStall : GoodIn wsL_law wsX2_addStall := goodIn_r _ [130, 85, 131, 41, 90, 91, 5, 92, 93, 94, 95, 96, 706, 707, 708, 709, 710, 711, 712, 713, 714, 715, 716, 717, 718, 719] (by decide +kernel) (by decide +kernel)
set_option maxRecDepth 20000 in
theorem gL_law_X2_addStall : GoodIn wsL_law (wsV RL 128 RX2 yX2_addStall wsX2_addStall) := goodIn_app (goodIn_of _ (by decide +kernel)) ggL_law_X2_addStall
set_option maxRecDepth 20000 in
theorem ggL_law_L_setWear : GoodIn wsL_law wsL_setWear := goodIn_ca (goodIn_ca (goodIn_r _ [134, 49, 50, 135, 136, 137, 2, 138, 21, 139, 140, 141, 142, 64, 65, 66, 67, 68, 124, 125, 126, 56, 57, 697, 698, 699, 700, 701, 702, 703, 704, 705, 720, 721, 722, 723, 724] (by decide +kernel) (by decide +kernel)) (goodIn_sub (fun _ h => List.mem_append_right _ h) (by decide +kernel))) (goodIn_sub (fun _ h => List.mem_append_left _ (List.mem_append_left _ (List.mem_append_right _ h))) (by decide +kernel))
set_option maxRecDepth 20000 in
theorem gL_law_L_setWear : GoodIn wsL_law (va_wsS RL 129 yL_setWear wsL_setWear) := goodIn_app (goodIn_of _ (by decide +kernel)) ggL_law_L_setWear
set_option maxRecDepth 20000 in
theorem ggL_law_X2_setWear : GoodIn wsL_law wsX2_setWear := goodIn_r _ [146, 85, 41, 147, 148, 149, 5, 150, 131, 90, 91, 92, 93, 94, 95, 96, 706, 707, 708, 709, 710, 711, 712, 713, 714, 715, 716, 717, 718, 719] (by decide +kernel) (by decide +kernel)
set_option maxRecDepth 20000 in
theorem gL_law_X2_setWear : GoodIn wsL_law (wsV RL 132 RX2 yX2_setWear wsX2_setWear) := goodIn_app (goodIn_of _ (by decide +kernel)) ggL_law_X2_setWear
set_option maxRecDepth 20000 in
theorem ggL_law_L_seal : GoodIn wsL_law wsL_seal := goodIn_ca (goodIn_r _ [153, 49, 154, 155, 156, 2, 157, 21, 139, 140, 141, 142, 64, 65, 66, 67, 68, 697, 698, 699, 700, 701, 702, 703, 704, 705, 720, 721, 722, 723, 724] (by decide +kernel) (by decide +kernel)) (goodIn_sub (fun _ h => List.mem_append_right _ h) (by decide +kernel))
set_option maxRecDepth 20000 in
theorem gL_law_L_seal : GoodIn wsL_law (va_wsS RL 133 yL_seal wsL_seal) := goodIn_app (goodIn_of _ (by decide +kernel)) ggL_law_L_seal
