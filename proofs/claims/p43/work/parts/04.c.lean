set_option maxRecDepth 20000 in
theorem ggL_act_L_below : GoodIn wsL_act wsL_below := goodIn_r _ [9, 10] (by decide +kernel) (by decide +kernel)
set_option maxRecDepth 20000 in
theorem gL_act_L_below : GoodIn wsL_act (va_wsS RL 18 yL_below wsL_below) := goodIn_app (goodIn_of _ (by decide +kernel)) ggL_act_L_below
set_option maxRecDepth 20000 in
theorem ggL_act_X2_with : GoodIn wsL_act wsX2_with := goodIn_r _ [14, 15] (by decide +kernel) (by decide +kernel)
set_option maxRecDepth 20000 in
theorem gL_act_X2_with : GoodIn wsL_act (va_wsS RL 24 yX2_with wsX2_with) := goodIn_app (goodIn_of _ (by decide +kernel)) ggL_act_X2_with
set_option maxRecDepth 20000 in
theorem ggL_act_X1_addMeasure : GoodIn wsL_act wsX1_addMeasure := goodIn_ca (goodIn_ca (goodIn_ca (goodIn_r _ [20, 21, 22, 23, 24, 25, 26, 27, 28, 29, 30, 31, 19, 32, 33, 34, 35, 36, 37, 38, 39, 40, 41, 42, 43, 44, 45, 46, 47, 48, 49, 50, 153, 154, 155, 156, 157, 158, 159, 160, 161] (by decide +kernel) (by decide +kernel)) (goodIn_sub (fun _ h => List.mem_cons_of_mem _ (List.mem_append_left _ (List.mem_append_left _ (List.mem_append_right _ h)))) (by decide +kernel))) (goodIn_sub (fun _ h => List.mem_cons_of_mem _ (List.mem_append_left _ (List.mem_append_right _ h))) (by decide +kernel))) (goodIn_sub (fun _ h => List.mem_cons_of_mem _ (List.mem_append_right _ h)) (by decide +kernel))
set_option maxRecDepth 20000 in
theorem gL_act_X1_addMeasure : GoodIn wsL_act (wsV RL 28 RX1 yX1_addMeasure wsX1_addMeasure) := goodIn_app (goodIn_of _ (by decide +kernel)) ggL_act_X1_addMeasure
set_option maxRecDepth 20000 in
theorem ggL_act_X1_setStandard : GoodIn wsL_act wsX1_setStandard := goodIn_ca (goodIn_r _ [54, 55, 29, 30, 31, 19, 32, 33, 34, 25, 35, 36, 37, 153, 154, 155, 156, 157, 158, 159, 160, 161] (by decide +kernel) (by decide +kernel)) (goodIn_sub (fun _ h => List.mem_cons_of_mem _ (List.mem_append_right _ h)) (by decide +kernel))
set_option maxRecDepth 20000 in
theorem gL_act_X1_setStandard : GoodIn wsL_act (wsV RL 38 RX1 yX1_setStandard wsX1_setStandard) := goodIn_app (goodIn_of _ (by decide +kernel)) ggL_act_X1_setStandard
set_option maxRecDepth 20000 in
theorem ggL_act_X1_addStall : GoodIn wsL_act wsX1_addStall := goodIn_ca (goodIn_ca (goodIn_r _ [59, 23, 24, 60, 61, 62, 19, 63, 21, 22, 35, 36, 37, 153, 154, 155, 156, 157, 158, 159, 160, 161, 162, 163, 164, 165, 166] (by decide +kernel) (by decide +kernel)) (goodIn_sub (fun _ h => List.mem_cons_of_mem _ (List.mem_append_left _ (List.mem_append_right _ h))) (by decide +kernel))) (goodIn_sub (fun _ h => List.mem_cons_of_mem _ (List.mem_append_left _ (List.mem_append_left _ (List.mem_append_right _ h)))) (by decide +kernel))
set_option maxRecDepth 20000 in
theorem gL_act_X1_addStall : GoodIn wsL_act (wsV RL 42 RX1 yX1_addStall wsX1_addStall) := goodIn_app (goodIn_of _ (by decide +kernel)) ggL_act_X1_addStall
set_option maxRecDepth 20000 in
theorem ggL_act_X1_setWear : GoodIn wsL_act wsX1_setWear := goodIn_ca (goodIn_ca (goodIn_r _ [67, 60, 68, 69, 70, 19, 71, 33, 34, 35, 36, 37, 61, 62, 63, 21, 22, 153, 154, 155, 156, 157, 158, 159, 160, 161, 162, 163, 164, 165, 166] (by decide +kernel) (by decide +kernel)) (goodIn_sub (fun _ h => List.mem_cons_of_mem _ (List.mem_append_right _ h)) (by decide +kernel))) (goodIn_sub (fun _ h => List.mem_cons_of_mem _ (List.mem_append_left _ (List.mem_append_left _ (List.mem_append_right _ h)))) (by decide +kernel))
set_option maxRecDepth 20000 in
theorem gL_act_X1_setWear : GoodIn wsL_act (wsV RL 45 RX1 yX1_setWear wsX1_setWear) := goodIn_app (goodIn_of _ (by decide +kernel)) ggL_act_X1_setWear
set_option maxRecDepth 20000 in
theorem ggL_act_X1_seal : GoodIn wsL_act wsX1_seal := goodIn_ca (goodIn_r _ [75, 60, 68, 69, 70, 19, 71, 33, 34, 35, 36, 37, 153, 154, 155, 156, 157, 158, 159, 160, 161, 162, 163, 164, 165, 166] (by decide +kernel) (by decide +kernel)) (goodIn_sub (fun _ h => List.mem_cons_of_mem _ (List.mem_append_right _ h)) (by decide +kernel))
set_option maxRecDepth 20000 in
theorem gL_act_X1_seal : GoodIn wsL_act (wsV RL 48 RX1 yX1_seal wsX1_seal) := goodIn_app (goodIn_of _ (by decide +kernel)) ggL_act_X1_seal
set_option maxRecDepth 20000 in
theorem ggL_act_X1_setTolerance : GoodIn wsL_act wsX1_setTolerance := goodIn_ca (goodIn_r _ [79, 21, 22, 60, 35, 36, 19, 37, 153, 154, 155, 156, 157, 158, 159, 160, 161, 162, 163, 164, 165, 166] (by decide +kernel) (by decide +kernel)) (goodIn_sub (fun _ h => List.mem_cons_of_mem _ (List.mem_append_left _ (List.mem_append_left _ (List.mem_append_right _ h)))) (by decide +kernel))
set_option maxRecDepth 20000 in
theorem gL_act_X1_setTolerance : GoodIn wsL_act (wsV RL 54 RX1 yX1_setTolerance wsX1_setTolerance) := goodIn_app (goodIn_of _ (by decide +kernel)) ggL_act_X1_setTolerance
set_option maxRecDepth 20000 in
theorem ggL_act_X1_passDays : GoodIn wsL_act wsX1_passDays := goodIn_ca (goodIn_r _ [83, 60, 84, 85, 86, 19, 87, 21, 22, 35, 36, 37, 88, 89, 90, 91, 92, 93, 94, 95, 96, 97, 98, 99, 100, 101, 102, 103, 104, 105, 106, 107, 108, 109, 110, 111, 112, 113, 114, 115, 116, 117, 118, 119, 120, 121, 122, 123, 124, 125, 126, 127, 128, 129, 153, 154, 155, 156, 157, 158, 159, 160, 161, 162, 163, 164, 165, 166] (by decide +kernel) (by decide +kernel)) (goodIn_sub (fun _ h => List.mem_cons_of_mem _ (List.mem_append_left _ (List.mem_append_left _ (List.mem_append_right _ h)))) (by decide +kernel))
set_option maxRecDepth 20000 in
theorem gL_act_X1_passDays : GoodIn wsL_act (wsV RL 57 RX1 yX1_passDays wsX1_passDays) := goodIn_app (goodIn_of _ (by decide +kernel)) ggL_act_X1_passDays
set_option maxRecDepth 20000 in
theorem ggL_act_X2_behind : GoodIn wsL_act wsX2_behind := goodIn_r _ [133, 134, 135, 136, 137, 13, 138, 139, 140, 141, 123, 105, 124, 142, 143, 144, 145, 146, 147, 148, 149, 150, 151, 152] (by decide +kernel) (by decide +kernel)
set_option maxRecDepth 20000 in
theorem gL_act_X2_behind : GoodIn wsL_act (wsV RL 60 RX2 yX2_behind wsX2_behind) := goodIn_app (goodIn_of _ (by decide +kernel)) ggL_act_X2_behind
