set_option maxRecDepth 20000 in
theorem ggL_law_X1_init : GoodIn wsL_law wsX1_init := goodIn_r _ [18, 19, 20, 21, 4, 22, 23, 24, 25, 26, 27, 28, 29, 30, 31, 32, 33, 34, 35, 36, 37, 38, 39, 337, 338, 339, 340, 341, 342, 343, 344, 345, 346, 347, 348, 349, 350] (by decide +kernel) (by decide +kernel)
set_option maxRecDepth 20000 in
theorem gL_law_X1_init : GoodIn wsL_law (wsX1_init) := ggL_law_X1_init
set_option maxRecDepth 20000 in
theorem ggL_law_L_build : GoodIn wsL_law wsL_build := goodIn_ca (goodIn_ca (goodIn_ca (goodIn_r _ [43, 44, 45, 46, 47, 48, 49, 20, 21, 50, 51, 4, 52, 53, 54, 55, 42, 56, 57, 58, 59, 60, 61, 62, 63, 64, 65, 66, 67, 68, 69, 70, 71, 72, 73, 74, 2, 75, 76, 77, 78, 79, 32, 25, 22, 23, 80, 81, 82, 83, 84, 85, 86, 87, 88, 89, 90, 91, 92, 93, 94, 95, 96, 26, 97, 98, 99, 100, 101, 102, 103, 104, 33, 105, 106, 107, 108, 30, 109, 110, 111, 112, 113, 114, 115, 116, 117, 118, 119, 120, 121, 122, 123, 124, 125, 126, 127, 128, 129, 130, 131, 132, 133, 134, 135, 136, 29, 137, 138, 139, 140, 141, 142, 143, 38, 37, 144, 145, 146, 147, 148, 10, 7, 11, 149, 13, 14, 150, 151, 152, 153, 154, 155, 156, 157, 158, 159, 160, 161, 162, 6, 8, 163, 164, 165, 166, 39, 167, 168, 169, 170, 171, 172, 173, 174, 175, 176, 177, 178, 179, 180, 181, 351, 352, 353, 354, 355, 356, 337, 338, 339, 340, 341, 342, 343, 344, 345, 346, 347, 348, 349, 350] (by decide +kernel) (by decide +kernel)) (goodIn_sub (fun _ h => List.mem_append_left _ (List.mem_append_left _ (List.mem_append_right _ h))) (by decide +kernel))) (goodIn_sub (fun _ h => List.mem_append_left _ (List.mem_append_right _ h)) (by decide +kernel))) (goodIn_sub (fun _ h => List.mem_append_right _ h) (by decide +kernel))
set_option maxRecDepth 20000 in
theorem gL_law_L_build : GoodIn wsL_law (va_wsS RL 73 yL_build wsL_build) := goodIn_app (goodIn_of _ (by decide +kernel)) ggL_law_L_build
set_option maxRecDepth 20000 in
theorem ggL_law_L_cell : GoodIn wsL_law wsL_cell := goodIn_r _ [56, 57] (by decide +kernel) (by decide +kernel)
set_option maxRecDepth 20000 in
theorem gL_law_L_cell : GoodIn wsL_law (va_wsS RL 64 yL_cell wsL_cell) := goodIn_app (goodIn_of _ (by decide +kernel)) ggL_law_L_cell
set_option maxRecDepth 20000 in
theorem ggL_law_L_act : GoodIn wsL_law wsL_act := goodIn_ca (goodIn_ca (goodIn_ca (goodIn_r _ [64, 65, 66, 4, 67, 68, 58, 59, 42, 60, 61, 69, 70, 46, 71, 51, 72, 73, 74, 2, 75, 76, 77, 78, 79, 32, 25, 22, 23, 80, 81, 82, 83, 84, 85, 86, 87, 88, 89, 90, 91, 92, 93, 94, 95, 96, 26, 97, 98, 99, 100, 101, 102, 103, 104, 33, 105, 106, 107, 108, 30, 109, 110, 111, 112, 113, 114, 115, 116, 117, 118, 119, 120, 121, 122, 123, 124, 125, 126, 127, 128, 129, 130, 131, 132, 133, 134, 135, 136, 29, 137, 138, 139, 140, 141, 142, 143, 38, 37, 144, 145, 146, 147, 148, 10, 7, 11, 149, 13, 14, 150, 151, 152, 153, 154, 155, 156, 157, 158, 159, 160, 161, 162, 6, 8, 163, 164, 165, 166, 39, 167, 168, 169, 170, 171, 172, 173, 174, 175, 53, 176, 177, 178, 179, 180, 181, 50, 351, 352, 353, 354, 355, 356, 337, 338, 339, 340, 341, 342, 343, 344, 345, 346, 347, 348, 349, 350] (by decide +kernel) (by decide +kernel)) (goodIn_sub (fun _ h => List.mem_append_left _ (List.mem_append_left _ (List.mem_append_right _ h))) (by decide +kernel))) (goodIn_sub (fun _ h => List.mem_append_left _ (List.mem_append_right _ h)) (by decide +kernel))) (goodIn_sub (fun _ h => List.mem_append_right _ h) (by decide +kernel))
set_option maxRecDepth 20000 in
theorem gL_law_L_act : GoodIn wsL_law (va_wsS RL 68 yL_act wsL_act) := goodIn_app (goodIn_of _ (by decide +kernel)) ggL_law_L_act
set_option maxRecDepth 20000 in
theorem ggL_law_X1_measures : GoodIn wsL_law wsX1_measures := goodIn_r _ [185, 32, 337, 338, 339, 340, 341, 342, 343, 344, 345] (by decide +kernel) (by decide +kernel)
set_option maxRecDepth 20000 in
theorem gL_law_X1_measures : GoodIn wsL_law (wsV RL 77 RX1 yX1_measures wsX1_measures) := goodIn_app (goodIn_of _ (by decide +kernel)) ggL_law_X1_measures
set_option maxRecDepth 20000 in
theorem ggL_law_X1_stalls : GoodIn wsL_law wsX1_stalls := goodIn_r _ [189, 30, 337, 338, 339, 340, 341, 342, 343, 344, 345, 346, 347, 348, 349, 350] (by decide +kernel) (by decide +kernel)
set_option maxRecDepth 20000 in
theorem gL_law_X1_stalls : GoodIn wsL_law (wsV RL 80 RX1 yX1_stalls wsX1_stalls) := goodIn_app (goodIn_of _ (by decide +kernel)) ggL_law_X1_stalls
set_option maxRecDepth 20000 in
theorem ggL_law_L_below : GoodIn wsL_law wsL_below := goodIn_r _ [60, 61] (by decide +kernel) (by decide +kernel)
set_option maxRecDepth 20000 in
theorem gL_law_L_below : GoodIn wsL_law (va_wsS RL 18 yL_below wsL_below) := goodIn_app (goodIn_of _ (by decide +kernel)) ggL_law_L_below
set_option maxRecDepth 20000 in
theorem ggL_law_X1_standard : GoodIn wsL_law wsX1_standard := goodIn_r _ [193, 33, 337, 338, 339, 340, 341, 342, 343, 344, 345] (by decide +kernel) (by decide +kernel)
set_option maxRecDepth 20000 in
theorem gL_law_X1_standard : GoodIn wsL_law (wsV RL 82 RX1 yX1_standard wsX1_standard) := goodIn_app (goodIn_of _ (by decide +kernel)) ggL_law_X1_standard
set_option maxRecDepth 20000 in
theorem ggL_law_X1_lengthTop : GoodIn wsL_law wsX1_lengthTop := goodIn_ca (goodIn_r _ [197, 25, 33, 80, 81, 82, 2, 83, 84, 85, 32, 86, 87, 88, 198, 199, 200, 201, 202, 203, 204, 205, 206, 337, 338, 339, 340, 341, 342, 343, 344, 345] (by decide +kernel) (by decide +kernel)) (goodIn_sub (fun _ h => List.mem_append_right _ h) (by decide +kernel))
set_option maxRecDepth 20000 in
theorem gL_law_X1_lengthTop : GoodIn wsL_law (wsV RL 84 RX1 yX1_lengthTop wsX1_lengthTop) := goodIn_app (goodIn_of _ (by decide +kernel)) ggL_law_X1_lengthTop
set_option maxRecDepth 20000 in
theorem ggL_law_X1_lengthBottom : GoodIn wsL_law wsX1_lengthBottom := goodIn_ca (goodIn_r _ [210, 25, 33, 80, 81, 82, 2, 83, 84, 85, 32, 86, 87, 88, 198, 199, 200, 201, 202, 203, 204, 205, 206, 337, 338, 339, 340, 341, 342, 343, 344, 345] (by decide +kernel) (by decide +kernel)) (goodIn_sub (fun _ h => List.mem_append_right _ h) (by decide +kernel))
set_option maxRecDepth 20000 in
theorem gL_law_X1_lengthBottom : GoodIn wsL_law (wsV RL 88 RX1 yX1_lengthBottom wsX1_lengthBottom) := goodIn_app (goodIn_of _ (by decide +kernel)) ggL_law_X1_lengthBottom
set_option maxRecDepth 20000 in
theorem ggL_law_X1_isLonger : GoodIn wsL_law wsX1_isLonger := goodIn_ca (goodIn_r _ [214, 25, 80, 81, 82, 2, 83, 84, 85, 32, 86, 87, 88, 337, 338, 339, 340, 341, 342, 343, 344, 345] (by decide +kernel) (by decide +kernel)) (goodIn_sub (fun _ h => List.mem_append_right _ h) (by decide +kernel))
set_option maxRecDepth 20000 in
theorem gL_law_X1_isLonger : GoodIn wsL_law (wsV RL 91 RX1 yX1_isLonger wsX1_isLonger) := goodIn_app (goodIn_of _ (by decide +kernel)) ggL_law_X1_isLonger
set_option maxRecDepth 20000 in
theorem ggL_law_X2_divisor : GoodIn wsL_law wsX2_divisor := goodIn_r _ [217, 218, 216, 46] (by decide +kernel) (by decide +kernel)
set_option maxRecDepth 20000 in
theorem gL_law_X2_divisor : GoodIn wsL_law (va_wsS RL 95 yX2_divisor wsX2_divisor) := goodIn_app (goodIn_of _ (by decide +kernel)) ggL_law_X2_divisor
