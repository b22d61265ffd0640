set_option maxRecDepth 20000 in
theorem ggL_law_X1_longest : GoodIn wsL_law wsX1_longest := goodIn_r _ [222, 26, 337, 338, 339, 340, 341, 342, 343, 344, 345] (by decide +kernel) (by decide +kernel)
set_option maxRecDepth 20000 in
theorem gL_law_X1_longest : GoodIn wsL_law (wsV RL 99 RX1 yX1_longest wsX1_longest) := goodIn_app (goodIn_of _ (by decide +kernel)) ggL_law_X1_longest
set_option maxRecDepth 20000 in
theorem ggL_law_X1_shortest : GoodIn wsL_law wsX1_shortest := goodIn_r _ [226, 32, 25, 337, 338, 339, 340, 341, 342, 343, 344, 345] (by decide +kernel) (by decide +kernel)
set_option maxRecDepth 20000 in
theorem gL_law_X1_shortest : GoodIn wsL_law (wsV RL 102 RX1 yX1_shortest wsX1_shortest) := goodIn_app (goodIn_of _ (by decide +kernel)) ggL_law_X1_shortest
set_option maxRecDepth 20000 in
theorem ggL_law_X1_baseOf : GoodIn wsL_law wsX1_baseOf := goodIn_ca (goodIn_r _ [230, 22, 80, 81, 82, 2, 83, 84, 85, 32, 86, 87, 88, 337, 338, 339, 340, 341, 342, 343, 344, 345] (by decide +kernel) (by decide +kernel)) (goodIn_sub (fun _ h => List.mem_append_right _ h) (by decide +kernel))
set_option maxRecDepth 20000 in
theorem gL_law_X1_baseOf : GoodIn wsL_law (wsV RL 105 RX1 yX1_baseOf wsX1_baseOf) := goodIn_app (goodIn_of _ (by decide +kernel)) ggL_law_X1_baseOf
set_option maxRecDepth 20000 in
theorem ggL_law_X1_stepsToEll : GoodIn wsL_law wsX1_stepsToEll := goodIn_ca (goodIn_r _ [234, 23, 80, 81, 82, 2, 83, 84, 85, 32, 86, 87, 88, 337, 338, 339, 340, 341, 342, 343, 344, 345] (by decide +kernel) (by decide +kernel)) (goodIn_sub (fun _ h => List.mem_append_right _ h) (by decide +kernel))
set_option maxRecDepth 20000 in
theorem gL_law_X1_stepsToEll : GoodIn wsL_law (wsV RL 108 RX1 yX1_stepsToEll wsX1_stepsToEll) := goodIn_app (goodIn_of _ (by decide +kernel)) ggL_law_X1_stepsToEll
set_option maxRecDepth 20000 in
theorem ggL_law_X1_convert : GoodIn wsL_law wsX1_convert := goodIn_ca (goodIn_ca (goodIn_r _ [238, 25, 80, 81, 82, 2, 83, 84, 85, 32, 86, 87, 88, 239, 240, 241, 76, 77, 204, 205, 206, 337, 338, 339, 340, 341, 342, 343, 344, 345] (by decide +kernel) (by decide +kernel)) (goodIn_sub (fun _ h => List.mem_append_right _ h) (by decide +kernel))) (goodIn_sub (fun _ h => List.mem_append_left _ (List.mem_append_left _ (List.mem_append_right _ h))) (by decide +kernel))
set_option maxRecDepth 20000 in
theorem gL_law_X1_convert : GoodIn wsL_law (wsV RL 111 RX1 yX1_convert wsX1_convert) := goodIn_app (goodIn_of _ (by decide +kernel)) ggL_law_X1_convert
set_option maxRecDepth 20000 in
theorem ggL_law_X1_isExact : GoodIn wsL_law wsX1_isExact := goodIn_ca (goodIn_ca (goodIn_r _ [245, 25, 80, 81, 82, 2, 83, 84, 85, 32, 86, 87, 88, 239, 240, 241, 76, 77, 246, 247, 248, 337, 338, 339, 340, 341, 342, 343, 344, 345] (by decide +kernel) (by decide +kernel)) (goodIn_sub (fun _ h => List.mem_append_right _ h) (by decide +kernel))) (goodIn_sub (fun _ h => List.mem_append_left _ (List.mem_append_left _ (List.mem_append_right _ h))) (by decide +kernel))
set_option maxRecDepth 20000 in
theorem gL_law_X1_isExact : GoodIn wsL_law (wsV RL 115 RX1 yX1_isExact wsX1_isExact) := goodIn_app (goodIn_of _ (by decide +kernel)) ggL_law_X1_isExact
set_option maxRecDepth 20000 in
theorem ggL_law_X1_fewestToMeet : GoodIn wsL_law wsX1_fewestToMeet := goodIn_ca (goodIn_r _ [252, 25, 80, 81, 82, 2, 83, 84, 85, 32, 86, 87, 88, 198, 199, 200, 201, 202, 203, 204, 205, 206, 337, 338, 339, 340, 341, 342, 343, 344, 345] (by decide +kernel) (by decide +kernel)) (goodIn_sub (fun _ h => List.mem_append_right _ h) (by decide +kernel))
set_option maxRecDepth 20000 in
theorem gL_law_X1_fewestToMeet : GoodIn wsL_law (wsV RL 119 RX1 yX1_fewestToMeet wsX1_fewestToMeet) := goodIn_app (goodIn_of _ (by decide +kernel)) ggL_law_X1_fewestToMeet
set_option maxRecDepth 20000 in
theorem ggL_law_X1_driftOf : GoodIn wsL_law wsX1_driftOf := goodIn_ca (goodIn_r _ [256, 30, 116, 117, 118, 2, 119, 84, 85, 86, 87, 88, 337, 338, 339, 340, 341, 342, 343, 344, 345, 346, 347, 348, 349, 350] (by decide +kernel) (by decide +kernel)) (goodIn_sub (fun _ h => List.mem_append_right _ h) (by decide +kernel))
set_option maxRecDepth 20000 in
theorem gL_law_X1_driftOf : GoodIn wsL_law (wsV RL 125 RX1 yX1_driftOf wsX1_driftOf) := goodIn_app (goodIn_of _ (by decide +kernel)) ggL_law_X1_driftOf
set_option maxRecDepth 20000 in
theorem ggL_law_X1_getsAt : GoodIn wsL_law wsX1_getsAt := goodIn_ca (goodIn_ca (goodIn_r _ [260, 30, 116, 117, 118, 2, 119, 84, 85, 86, 87, 88, 80, 81, 82, 83, 32, 239, 240, 241, 76, 77, 261, 262, 263, 264, 25, 33, 204, 205, 206, 337, 338, 339, 340, 341, 342, 343, 344, 345, 346, 347, 348, 349, 350] (by decide +kernel) (by decide +kernel)) (goodIn_sub (fun _ h => List.mem_append_right _ h) (by decide +kernel))) (goodIn_sub (fun _ h => List.mem_append_left _ (List.mem_append_left _ (List.mem_append_right _ h))) (by decide +kernel))
set_option maxRecDepth 20000 in
theorem gL_law_X1_getsAt : GoodIn wsL_law (wsV RL 139 RX1 yX1_getsAt wsX1_getsAt) := goodIn_app (goodIn_of _ (by decide +kernel)) ggL_law_X1_getsAt
set_option maxRecDepth 20000 in
theorem ggL_law_X1_lossAt : GoodIn wsL_law wsX1_lossAt := goodIn_ca (goodIn_ca (goodIn_r _ [268, 30, 116, 117, 118, 2, 119, 84, 85, 86, 87, 88, 80, 81, 82, 83, 32, 239, 240, 241, 76, 77, 261, 262, 263, 264, 25, 33, 204, 205, 206, 337, 338, 339, 340, 341, 342, 343, 344, 345, 346, 347, 348, 349, 350] (by decide +kernel) (by decide +kernel)) (goodIn_sub (fun _ h => List.mem_append_right _ h) (by decide +kernel))) (goodIn_sub (fun _ h => List.mem_append_left _ (List.mem_append_left _ (List.mem_append_right _ h))) (by decide +kernel))
set_option maxRecDepth 20000 in
theorem gL_law_X1_lossAt : GoodIn wsL_law (wsV RL 142 RX1 yX1_lossAt wsX1_lossAt) := goodIn_app (goodIn_of _ (by decide +kernel)) ggL_law_X1_lossAt
set_option maxRecDepth 20000 in
theorem ggL_law_X1_isHonest : GoodIn wsL_law wsX1_isHonest := goodIn_ca (goodIn_r _ [272, 30, 116, 117, 118, 2, 119, 84, 85, 86, 87, 88, 164, 29, 165, 166, 162, 6, 7, 8, 39, 337, 338, 339, 340, 341, 342, 343, 344, 345, 346, 347, 348, 349, 350] (by decide +kernel) (by decide +kernel)) (goodIn_sub (fun _ h => List.mem_append_right _ h) (by decide +kernel))
set_option maxRecDepth 20000 in
theorem gL_law_X1_isHonest : GoodIn wsL_law (wsV RL 145 RX1 yX1_isHonest wsX1_isHonest) := goodIn_app (goodIn_of _ (by decide +kernel)) ggL_law_X1_isHonest
set_option maxRecDepth 20000 in
theorem ggL_law_X1_tolerance : GoodIn wsL_law wsX1_tolerance := goodIn_r _ [276, 30, 337, 338, 339, 340, 341, 342, 343, 344, 345, 346, 347, 348, 349, 350] (by decide +kernel) (by decide +kernel)
set_option maxRecDepth 20000 in
theorem gL_law_X1_tolerance : GoodIn wsL_law (wsV RL 149 RX1 yX1_tolerance wsX1_tolerance) := goodIn_app (goodIn_of _ (by decide +kernel)) ggL_law_X1_tolerance
