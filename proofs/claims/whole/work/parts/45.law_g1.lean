set_option maxRecDepth 20000 in
theorem ggL_law_X2_seal : GoodIn wsL_law wsX2_seal := goodIn_r _ [161, 85, 43, 147, 148, 149, 5, 150, 131, 90, 91, 92, 93, 94, 95, 96, 706, 707, 708, 709, 710, 711, 712, 713, 714, 715, 716, 717, 718, 719] (by decide +kernel) (by decide +kernel)
set_option maxRecDepth 20000 in
theorem gL_law_X2_seal : GoodIn wsL_law (wsV RL 135 RX2 yX2_seal wsX2_seal) := goodIn_app (goodIn_of _ (by decide +kernel)) ggL_law_X2_seal
set_option maxRecDepth 20000 in
theorem ggL_law_L_setTolerance : GoodIn wsL_law wsL_setTolerance := goodIn_ca (goodIn_r _ [164, 50, 165, 166, 167, 2, 168, 56, 57, 21, 66, 67, 68, 697, 698, 699, 700, 701, 702, 703, 704, 705, 720, 721, 722, 723, 724] (by decide +kernel) (by decide +kernel)) (goodIn_sub (fun _ h => List.mem_append_left _ (List.mem_append_left _ (List.mem_append_right _ h))) (by decide +kernel))
set_option maxRecDepth 20000 in
theorem gL_law_L_setTolerance : GoodIn wsL_law (va_wsS RL 136 yL_setTolerance wsL_setTolerance) := goodIn_app (goodIn_of _ (by decide +kernel)) ggL_law_L_setTolerance
set_option maxRecDepth 20000 in
theorem ggL_law_X2_setTolerance : GoodIn wsL_law wsX2_setTolerance := goodIn_r _ [172, 85, 42, 90, 91, 5, 92, 93, 94, 95, 96, 706, 707, 708, 709, 710, 711, 712, 713, 714, 715, 716, 717, 718, 719] (by decide +kernel) (by decide +kernel)
set_option maxRecDepth 20000 in
theorem gL_law_X2_setTolerance : GoodIn wsL_law (wsV RL 138 RX2 yX2_setTolerance wsX2_setTolerance) := goodIn_app (goodIn_of _ (by decide +kernel)) ggL_law_X2_setTolerance
set_option maxRecDepth 20000 in
theorem ggL_law_L_passDays : GoodIn wsL_law wsL_passDays := goodIn_ca (goodIn_r _ [175, 50, 176, 177, 178, 2, 179, 21, 180, 181, 182, 183, 56, 57, 66, 67, 68, 184, 20, 185, 186, 187, 188, 189, 190, 191, 29, 28, 192, 193, 194, 195, 196, 197, 198, 199, 200, 201, 202, 203, 204, 205, 206, 207, 208, 209, 210, 211, 212, 213, 214, 215, 216, 217, 218, 219, 220, 221, 30, 697, 698, 699, 700, 701, 702, 703, 704, 705, 720, 721, 722, 723, 724] (by decide +kernel) (by decide +kernel)) (goodIn_sub (fun _ h => List.mem_append_left _ (List.mem_append_left _ (List.mem_append_right _ h))) (by decide +kernel))
set_option maxRecDepth 20000 in
theorem gL_law_L_passDays : GoodIn wsL_law (va_wsS RL 139 yL_passDays wsL_passDays) := goodIn_app (goodIn_of _ (by decide +kernel)) ggL_law_L_passDays
set_option maxRecDepth 20000 in
theorem ggL_law_X2_passDays : GoodIn wsL_law wsX2_passDays := goodIn_r _ [225, 85, 43, 90, 91, 5, 92, 93, 94, 95, 96, 226, 227, 228, 229, 230, 231, 232, 233, 131, 41, 234, 197, 198, 199, 235, 201, 202, 236, 216, 217, 237, 238, 239, 240, 42, 706, 707, 708, 709, 710, 711, 712, 713, 714, 715, 716, 717, 718, 719] (by decide +kernel) (by decide +kernel)
set_option maxRecDepth 20000 in
theorem gL_law_X2_passDays : GoodIn wsL_law (wsV RL 141 RX2 yX2_passDays wsX2_passDays) := goodIn_app (goodIn_of _ (by decide +kernel)) ggL_law_X2_passDays
set_option maxRecDepth 20000 in
theorem ggL_law_X1_measures : GoodIn wsL_law wsX1_measures := goodIn_r _ [244, 23, 697, 698, 699, 700, 701, 702, 703, 704, 705] (by decide +kernel) (by decide +kernel)
set_option maxRecDepth 20000 in
theorem gL_law_X1_measures : GoodIn wsL_law (wsV RL 142 RX1 yX1_measures wsX1_measures) := goodIn_app (goodIn_of _ (by decide +kernel)) ggL_law_X1_measures
set_option maxRecDepth 20000 in
theorem ggL_law_X2_measures : GoodIn wsL_law wsX2_measures := goodIn_r _ [248, 35, 249, 250, 251, 5, 252, 85, 706, 707, 708, 709, 710, 711, 712, 713, 714, 715, 716, 717, 718, 719] (by decide +kernel) (by decide +kernel)
set_option maxRecDepth 20000 in
theorem gL_law_X2_measures : GoodIn wsL_law (wsV RL 145 RX2 yX2_measures wsX2_measures) := goodIn_app (goodIn_of _ (by decide +kernel)) ggL_law_X2_measures
set_option maxRecDepth 20000 in
theorem ggL_law_X1_stalls : GoodIn wsL_law wsX1_stalls := goodIn_r _ [256, 21, 697, 698, 699, 700, 701, 702, 703, 704, 705, 720, 721, 722, 723, 724] (by decide +kernel) (by decide +kernel)
set_option maxRecDepth 20000 in
theorem gL_law_X1_stalls : GoodIn wsL_law (wsV RL 146 RX1 yX1_stalls wsX1_stalls) := goodIn_app (goodIn_of _ (by decide +kernel)) ggL_law_X1_stalls
set_option maxRecDepth 20000 in
theorem ggL_law_X2_stalls : GoodIn wsL_law wsX2_stalls := goodIn_r _ [260, 131, 249, 250, 251, 5, 252, 85, 706, 707, 708, 709, 710, 711, 712, 713, 714, 715, 716, 717, 718, 719] (by decide +kernel) (by decide +kernel)
set_option maxRecDepth 20000 in
theorem gL_law_X2_stalls : GoodIn wsL_law (wsV RL 149 RX2 yX2_stalls wsX2_stalls) := goodIn_app (goodIn_of _ (by decide +kernel)) ggL_law_X2_stalls
set_option maxRecDepth 20000 in
theorem ggL_law_X1_days : GoodIn wsL_law wsX1_days := goodIn_r _ [264, 21, 697, 698, 699, 700, 701, 702, 703, 704, 705, 720, 721, 722, 723, 724] (by decide +kernel) (by decide +kernel)
set_option maxRecDepth 20000 in
theorem gL_law_X1_days : GoodIn wsL_law (wsV RL 150 RX1 yX1_days wsX1_days) := goodIn_app (goodIn_of _ (by decide +kernel)) ggL_law_X1_days
set_option maxRecDepth 20000 in
theorem ggL_law_X2_days : GoodIn wsL_law wsX2_days := goodIn_r _ [268, 43, 249, 250, 251, 5, 252, 85, 706, 707, 708, 709, 710, 711, 712, 713, 714, 715, 716, 717, 718, 719] (by decide +kernel) (by decide +kernel)
set_option maxRecDepth 20000 in
theorem gL_law_X2_days : GoodIn wsL_law (wsV RL 153 RX2 yX2_days wsX2_days) := goodIn_app (goodIn_of _ (by decide +kernel)) ggL_law_X2_days
set_option maxRecDepth 20000 in
theorem ggL_law_X1_standard : GoodIn wsL_law wsX1_standard := goodIn_r _ [272, 24, 697, 698, 699, 700, 701, 702, 703, 704, 705] (by decide +kernel) (by decide +kernel)
set_option maxRecDepth 20000 in
theorem gL_law_X1_standard : GoodIn wsL_law (wsV RL 154 RX1 yX1_standard wsX1_standard) := goodIn_app (goodIn_of _ (by decide +kernel)) ggL_law_X1_standard
