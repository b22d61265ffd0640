set_option maxRecDepth 20000 in
theorem ggL_law_X2_isExact : GoodIn wsL_law wsX2_isExact := goodIn_r _ [426, 39, 409, 410, 411, 5, 412, 85, 86, 87, 88, 89, 35, 90, 91, 92, 706, 707, 708, 709, 710, 711, 712, 713, 714, 715, 716, 717, 718, 719] (by decide +kernel) (by decide +kernel)
set_option maxRecDepth 20000 in
theorem gL_law_X2_isExact : GoodIn wsL_law (wsV RL 197 RX2 yX2_isExact wsX2_isExact) := goodIn_app (goodIn_of _ (by decide +kernel)) ggL_law_X2_isExact
set_option maxRecDepth 20000 in
theorem ggL_law_L_piecesOf : GoodIn wsL_law wsL_piecesOf := goodIn_ca (goodIn_ca (goodIn_r _ [429, 49, 50, 430, 431, 432, 2, 433, 16, 23, 17, 60, 61, 62, 63, 64, 65, 66, 67, 68, 402, 403, 404, 56, 57, 77, 78, 79, 80, 420, 421, 422, 328, 329, 330, 697, 698, 699, 700, 701, 702, 703, 704, 705] (by decide +kernel) (by decide +kernel)) (goodIn_sub (fun _ h => List.mem_append_right _ h) (by decide +kernel))) (goodIn_sub (fun _ h => List.mem_append_left _ (List.mem_append_left _ (List.mem_append_right _ h))) (by decide +kernel))
set_option maxRecDepth 20000 in
theorem gL_law_L_piecesOf : GoodIn wsL_law (va_wsS RL 198 yL_piecesOf wsL_piecesOf) := goodIn_app (goodIn_of _ (by decide +kernel)) ggL_law_L_piecesOf
set_option maxRecDepth 20000 in
theorem ggL_law_X2_piecesOf : GoodIn wsL_law wsX2_piecesOf := goodIn_r _ [437, 39, 409, 410, 411, 5, 412, 85, 86, 87, 88, 89, 35, 90, 91, 92, 438, 439, 440, 441, 442, 40, 706, 707, 708, 709, 710, 711, 712, 713, 714, 715, 716, 717, 718, 719] (by decide +kernel) (by decide +kernel)
set_option maxRecDepth 20000 in
theorem gL_law_X2_piecesOf : GoodIn wsL_law (wsV RL 200 RX2 yX2_piecesOf wsX2_piecesOf) := goodIn_app (goodIn_of _ (by decide +kernel)) ggL_law_X2_piecesOf
set_option maxRecDepth 20000 in
theorem ggL_law_L_pieces : GoodIn wsL_law wsL_pieces := goodIn_ca (goodIn_ca (goodIn_r _ [445, 49, 50, 446, 447, 448, 2, 449, 16, 23, 60, 61, 62, 63, 64, 65, 66, 67, 68, 402, 403, 404, 56, 57, 77, 78, 79, 80, 17, 328, 329, 330, 420, 421, 422, 697, 698, 699, 700, 701, 702, 703, 704, 705] (by decide +kernel) (by decide +kernel)) (goodIn_sub (fun _ h => List.mem_append_right _ h) (by decide +kernel))) (goodIn_sub (fun _ h => List.mem_append_left _ (List.mem_append_left _ (List.mem_append_right _ h))) (by decide +kernel))
set_option maxRecDepth 20000 in
theorem gL_law_L_pieces : GoodIn wsL_law (va_wsS RL 201 yL_pieces wsL_pieces) := goodIn_app (goodIn_of _ (by decide +kernel)) ggL_law_L_pieces
set_option maxRecDepth 20000 in
theorem ggL_law_X2_pieces : GoodIn wsL_law wsX2_pieces := goodIn_r _ [453, 39, 409, 410, 411, 5, 412, 85, 86, 87, 88, 89, 35, 90, 91, 92, 438, 439, 440, 441, 442, 40, 706, 707, 708, 709, 710, 711, 712, 713, 714, 715, 716, 717, 718, 719] (by decide +kernel) (by decide +kernel)
set_option maxRecDepth 20000 in
theorem gL_law_X2_pieces : GoodIn wsL_law (wsV RL 203 RX2 yX2_pieces wsX2_pieces) := goodIn_app (goodIn_of _ (by decide +kernel)) ggL_law_X2_pieces
set_option maxRecDepth 20000 in
theorem ggL_law_L_isTold : GoodIn wsL_law wsL_isTold := goodIn_ca (goodIn_ca (goodIn_r _ [456, 49, 50, 457, 458, 459, 2, 460, 16, 23, 60, 61, 62, 63, 64, 65, 66, 67, 68, 402, 403, 404, 56, 57, 77, 78, 79, 80, 17, 420, 421, 422, 697, 698, 699, 700, 701, 702, 703, 704, 705] (by decide +kernel) (by decide +kernel)) (goodIn_sub (fun _ h => List.mem_append_right _ h) (by decide +kernel))) (goodIn_sub (fun _ h => List.mem_append_left _ (List.mem_append_left _ (List.mem_append_right _ h))) (by decide +kernel))
set_option maxRecDepth 20000 in
theorem gL_law_L_isTold : GoodIn wsL_law (va_wsS RL 204 yL_isTold wsL_isTold) := goodIn_app (goodIn_of _ (by decide +kernel)) ggL_law_L_isTold
set_option maxRecDepth 20000 in
theorem ggL_law_X2_isTold : GoodIn wsL_law wsX2_isTold := goodIn_r _ [464, 409, 410, 411, 5, 412, 85, 86, 87, 88, 89, 35, 90, 91, 92, 465, 466, 467, 468, 39, 442, 438, 439, 440, 441, 40, 706, 707, 708, 709, 710, 711, 712, 713, 714, 715, 716, 717, 718, 719] (by decide +kernel) (by decide +kernel)
set_option maxRecDepth 20000 in
theorem gL_law_X2_isTold : GoodIn wsL_law (wsV RL 206 RX2 yX2_isTold wsX2_isTold) := goodIn_app (goodIn_of _ (by decide +kernel)) ggL_law_X2_isTold
set_option maxRecDepth 20000 in
theorem ggL_law_L_bestMeasure : GoodIn wsL_law wsL_bestMeasure := goodIn_ca (goodIn_ca (goodIn_r _ [471, 49, 50, 472, 473, 474, 2, 475, 16, 23, 17, 60, 61, 62, 63, 64, 65, 66, 67, 68, 402, 403, 404, 56, 57, 77, 78, 79, 80, 420, 421, 422, 697, 698, 699, 700, 701, 702, 703, 704, 705] (by decide +kernel) (by decide +kernel)) (goodIn_sub (fun _ h => List.mem_append_right _ h) (by decide +kernel))) (goodIn_sub (fun _ h => List.mem_append_left _ (List.mem_append_left _ (List.mem_append_right _ h))) (by decide +kernel))
set_option maxRecDepth 20000 in
theorem gL_law_L_bestMeasure : GoodIn wsL_law (va_wsS RL 207 yL_bestMeasure wsL_bestMeasure) := goodIn_app (goodIn_of _ (by decide +kernel)) ggL_law_L_bestMeasure
set_option maxRecDepth 20000 in
theorem ggL_law_X2_bestMeasure : GoodIn wsL_law wsX2_bestMeasure := goodIn_r _ [479, 409, 410, 411, 5, 412, 85, 86, 87, 88, 89, 35, 90, 91, 92, 480, 481, 482, 483, 39, 40, 706, 707, 708, 709, 710, 711, 712, 713, 714, 715, 716, 717, 718, 719] (by decide +kernel) (by decide +kernel)
set_option maxRecDepth 20000 in
theorem gL_law_X2_bestMeasure : GoodIn wsL_law (wsV RL 209 RX2 yX2_bestMeasure wsX2_bestMeasure) := goodIn_app (goodIn_of _ (by decide +kernel)) ggL_law_X2_bestMeasure
set_option maxRecDepth 20000 in
theorem ggL_law_L_driftOf : GoodIn wsL_law wsL_driftOf := goodIn_ca (goodIn_r _ [486, 49, 487, 488, 489, 2, 490, 21, 139, 140, 141, 142, 64, 65, 66, 67, 68, 697, 698, 699, 700, 701, 702, 703, 704, 705, 720, 721, 722, 723, 724] (by decide +kernel) (by decide +kernel)) (goodIn_sub (fun _ h => List.mem_append_right _ h) (by decide +kernel))
set_option maxRecDepth 20000 in
theorem gL_law_L_driftOf : GoodIn wsL_law (va_wsS RL 210 yL_driftOf wsL_driftOf) := goodIn_app (goodIn_of _ (by decide +kernel)) ggL_law_L_driftOf
set_option maxRecDepth 20000 in
theorem ggL_law_X2_driftOf : GoodIn wsL_law wsX2_driftOf := goodIn_r _ [494, 85, 43, 147, 148, 149, 5, 150, 131, 90, 91, 92, 93, 94, 95, 96, 706, 707, 708, 709, 710, 711, 712, 713, 714, 715, 716, 717, 718, 719] (by decide +kernel) (by decide +kernel)
set_option maxRecDepth 20000 in
theorem gL_law_X2_driftOf : GoodIn wsL_law (wsV RL 212 RX2 yX2_driftOf wsX2_driftOf) := goodIn_app (goodIn_of _ (by decide +kernel)) ggL_law_X2_driftOf
set_option maxRecDepth 20000 in
theorem ggL_law_L_wearOf : GoodIn wsL_law wsL_wearOf := goodIn_ca (goodIn_r _ [497, 49, 498, 499, 500, 2, 501, 21, 139, 140, 141, 142, 64, 65, 66, 67, 68, 697, 698, 699, 700, 701, 702, 703, 704, 705, 720, 721, 722, 723, 724] (by decide +kernel) (by decide +kernel)) (goodIn_sub (fun _ h => List.mem_append_right _ h) (by decide +kernel))
set_option maxRecDepth 20000 in
theorem gL_law_L_wearOf : GoodIn wsL_law (va_wsS RL 213 yL_wearOf wsL_wearOf) := goodIn_app (goodIn_of _ (by decide +kernel)) ggL_law_L_wearOf
