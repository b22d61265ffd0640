set_option maxRecDepth 20000 in
theorem ggL_law_X2_wearOf : GoodIn wsL_law wsX2_wearOf := goodIn_r _ [505, 85, 41, 147, 148, 149, 5, 150, 131, 90, 91, 92, 93, 94, 95, 96, 706, 707, 708, 709, 710, 711, 712, 713, 714, 715, 716, 717, 718, 719] (by decide +kernel) (by decide +kernel)
set_option maxRecDepth 20000 in
theorem gL_law_X2_wearOf : GoodIn wsL_law (wsV RL 215 RX2 yX2_wearOf wsX2_wearOf) := goodIn_app (goodIn_of _ (by decide +kernel)) ggL_law_X2_wearOf
set_option maxRecDepth 20000 in
theorem ggL_law_L_isHonest : GoodIn wsL_law wsL_isHonest := goodIn_ca (goodIn_r _ [508, 49, 509, 510, 511, 2, 512, 21, 139, 140, 141, 142, 64, 65, 66, 67, 68, 219, 20, 220, 221, 215, 216, 198, 217, 30, 697, 698, 699, 700, 701, 702, 703, 704, 705, 720, 721, 722, 723, 724] (by decide +kernel) (by decide +kernel)) (goodIn_sub (fun _ h => List.mem_append_right _ h) (by decide +kernel))
set_option maxRecDepth 20000 in
theorem gL_law_L_isHonest : GoodIn wsL_law (va_wsS RL 216 yL_isHonest wsL_isHonest) := goodIn_app (goodIn_of _ (by decide +kernel)) ggL_law_L_isHonest
set_option maxRecDepth 20000 in
theorem ggL_law_X2_isHonest : GoodIn wsL_law wsX2_isHonest := goodIn_r _ [516, 85, 147, 148, 149, 5, 150, 131, 90, 91, 92, 237, 238, 239, 240, 43, 236, 216, 198, 217, 42, 706, 707, 708, 709, 710, 711, 712, 713, 714, 715, 716, 717, 718, 719] (by decide +kernel) (by decide +kernel)
set_option maxRecDepth 20000 in
theorem gL_law_X2_isHonest : GoodIn wsL_law (wsV RL 218 RX2 yX2_isHonest wsX2_isHonest) := goodIn_app (goodIn_of _ (by decide +kernel)) ggL_law_X2_isHonest
set_option maxRecDepth 20000 in
theorem ggL_law_L_getsAt : GoodIn wsL_law wsL_getsAt := goodIn_ca (goodIn_ca (goodIn_r _ [519, 49, 50, 520, 521, 522, 2, 523, 21, 139, 140, 141, 142, 64, 65, 66, 67, 68, 60, 61, 62, 63, 23, 402, 403, 404, 56, 57, 524, 525, 526, 527, 16, 24, 328, 329, 330, 697, 698, 699, 700, 701, 702, 703, 704, 705, 720, 721, 722, 723, 724] (by decide +kernel) (by decide +kernel)) (goodIn_sub (fun _ h => List.mem_append_right _ h) (by decide +kernel))) (goodIn_sub (fun _ h => List.mem_append_left _ (List.mem_append_left _ (List.mem_append_right _ h))) (by decide +kernel))
set_option maxRecDepth 20000 in
theorem gL_law_L_getsAt : GoodIn wsL_law (va_wsS RL 219 yL_getsAt wsL_getsAt) := goodIn_app (goodIn_of _ (by decide +kernel)) ggL_law_L_getsAt
set_option maxRecDepth 20000 in
theorem ggL_law_X2_getsAt : GoodIn wsL_law wsX2_getsAt := goodIn_r _ [531, 43, 532, 533, 534, 5, 535, 85, 147, 148, 149, 150, 131, 90, 91, 92, 86, 87, 88, 89, 35, 536, 537, 538, 539, 116, 335, 336, 337, 338, 39, 339, 340, 341, 706, 707, 708, 709, 710, 711, 712, 713, 714, 715, 716, 717, 718, 719] (by decide +kernel) (by decide +kernel)
set_option maxRecDepth 20000 in
theorem gL_law_X2_getsAt : GoodIn wsL_law (wsV RL 221 RX2 yX2_getsAt wsX2_getsAt) := goodIn_app (goodIn_of _ (by decide +kernel)) ggL_law_X2_getsAt
set_option maxRecDepth 20000 in
theorem ggL_law_L_lossAt : GoodIn wsL_law wsL_lossAt := goodIn_ca (goodIn_ca (goodIn_r _ [542, 49, 50, 543, 544, 545, 2, 546, 21, 139, 140, 141, 142, 64, 65, 66, 67, 68, 60, 61, 62, 63, 23, 402, 403, 404, 56, 57, 524, 525, 526, 527, 16, 24, 328, 329, 330, 697, 698, 699, 700, 701, 702, 703, 704, 705, 720, 721, 722, 723, 724] (by decide +kernel) (by decide +kernel)) (goodIn_sub (fun _ h => List.mem_append_right _ h) (by decide +kernel))) (goodIn_sub (fun _ h => List.mem_append_left _ (List.mem_append_left _ (List.mem_append_right _ h))) (by decide +kernel))
set_option maxRecDepth 20000 in
theorem gL_law_L_lossAt : GoodIn wsL_law (va_wsS RL 222 yL_lossAt wsL_lossAt) := goodIn_app (goodIn_of _ (by decide +kernel)) ggL_law_L_lossAt
set_option maxRecDepth 20000 in
theorem ggL_law_X2_lossAt : GoodIn wsL_law wsX2_lossAt := goodIn_r _ [550, 43, 532, 533, 534, 5, 535, 85, 147, 148, 149, 150, 131, 90, 91, 92, 86, 87, 88, 89, 35, 536, 537, 538, 539, 116, 335, 336, 337, 338, 39, 339, 340, 341, 706, 707, 708, 709, 710, 711, 712, 713, 714, 715, 716, 717, 718, 719] (by decide +kernel) (by decide +kernel)
set_option maxRecDepth 20000 in
theorem gL_law_X2_lossAt : GoodIn wsL_law (wsV RL 224 RX2 yX2_lossAt wsX2_lossAt) := goodIn_app (goodIn_of _ (by decide +kernel)) ggL_law_X2_lossAt
set_option maxRecDepth 20000 in
theorem ggL_law_X1_mostHonest : GoodIn wsL_law wsX1_mostHonest := goodIn_r _ [554, 21, 555, 216, 198, 217, 697, 698, 699, 700, 701, 702, 703, 704, 705, 720, 721, 722, 723, 724] (by decide +kernel) (by decide +kernel)
set_option maxRecDepth 20000 in
theorem gL_law_X1_mostHonest : GoodIn wsL_law (wsV RL 225 RX1 yX1_mostHonest wsX1_mostHonest) := goodIn_app (goodIn_of _ (by decide +kernel)) ggL_law_X1_mostHonest
set_option maxRecDepth 20000 in
theorem ggL_law_X2_mostHonest : GoodIn wsL_law wsX2_mostHonest := goodIn_r _ [559, 560, 561, 562, 5, 563, 131, 43, 236, 216, 198, 217, 249, 250, 251, 252, 85, 706, 707, 708, 709, 710, 711, 712, 713, 714, 715, 716, 717, 718, 719] (by decide +kernel) (by decide +kernel)
set_option maxRecDepth 20000 in
theorem gL_law_X2_mostHonest : GoodIn wsL_law (wsV RL 228 RX2 yX2_mostHonest wsX2_mostHonest) := goodIn_app (goodIn_of _ (by decide +kernel)) ggL_law_X2_mostHonest
set_option maxRecDepth 20000 in
theorem ggL_law_X1_mostGenerous : GoodIn wsL_law wsX1_mostGenerous := goodIn_r _ [567, 21, 697, 698, 699, 700, 701, 702, 703, 704, 705, 720, 721, 722, 723, 724] (by decide +kernel) (by decide +kernel)
set_option maxRecDepth 20000 in
theorem gL_law_X1_mostGenerous : GoodIn wsL_law (wsV RL 229 RX1 yX1_mostGenerous wsX1_mostGenerous) := goodIn_app (goodIn_of _ (by decide +kernel)) ggL_law_X1_mostGenerous
set_option maxRecDepth 20000 in
theorem ggL_law_X2_mostGenerous : GoodIn wsL_law wsX2_mostGenerous := goodIn_r _ [571, 572, 573, 574, 5, 575, 131, 43, 249, 250, 251, 252, 85, 706, 707, 708, 709, 710, 711, 712, 713, 714, 715, 716, 717, 718, 719] (by decide +kernel) (by decide +kernel)
set_option maxRecDepth 20000 in
theorem gL_law_X2_mostGenerous : GoodIn wsL_law (wsV RL 232 RX2 yX2_mostGenerous wsX2_mostGenerous) := goodIn_app (goodIn_of _ (by decide +kernel)) ggL_law_X2_mostGenerous
set_option maxRecDepth 20000 in
theorem ggL_law_L_driftIn : GoodIn wsL_law wsL_driftIn := goodIn_ca (goodIn_ca (goodIn_r _ [578, 49, 50, 579, 580, 581, 2, 582, 22, 21, 139, 140, 141, 142, 64, 65, 66, 67, 68, 181, 182, 183, 56, 57, 583, 20, 584, 585, 28, 29, 191, 30, 192, 184, 185, 186, 187, 188, 189, 190, 193, 194, 195, 196, 197, 198, 199, 200, 201, 202, 203, 204, 205, 206, 207, 208, 209, 210, 211, 212, 213, 214, 215, 216, 217, 218, 219, 220, 221, 697, 698, 699, 700, 701, 702, 703, 704, 705, 720, 721, 722, 723, 724] (by decide +kernel) (by decide +kernel)) (goodIn_sub (fun _ h => List.mem_append_right _ h) (by decide +kernel))) (goodIn_sub (fun _ h => List.mem_append_left _ (List.mem_append_left _ (List.mem_append_right _ h))) (by decide +kernel))
set_option maxRecDepth 20000 in
theorem gL_law_L_driftIn : GoodIn wsL_law (va_wsS RL 233 yL_driftIn wsL_driftIn) := goodIn_app (goodIn_of _ (by decide +kernel)) ggL_law_L_driftIn
