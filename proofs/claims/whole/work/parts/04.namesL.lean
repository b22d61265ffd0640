set_option maxRecDepth 20000 in
theorem ggL_addMeasure_X1_addMeasure : GoodIn wsL_addMeasure wsX1_addMeasure := goodIn_ca (goodIn_ca (goodIn_ca (goodIn_r _ [8, 9, 10, 11, 12, 13, 14, 15, 16, 17, 18, 19, 7, 20, 21, 22, 23, 24, 25, 26, 27, 28, 29, 30, 31, 32, 33, 34, 35, 36, 37, 38, 39, 40, 41, 42, 43, 44, 45, 46, 47] (by decide +kernel) (by decide +kernel)) (goodIn_sub (fun _ h => List.mem_cons_of_mem _ (List.mem_append_left _ (List.mem_append_left _ (List.mem_append_right _ h)))) (by decide +kernel))) (goodIn_sub (fun _ h => List.mem_cons_of_mem _ (List.mem_append_left _ (List.mem_append_right _ h))) (by decide +kernel))) (goodIn_sub (fun _ h => List.mem_cons_of_mem _ (List.mem_append_right _ h)) (by decide +kernel))
set_option maxRecDepth 20000 in
theorem gL_addMeasure_X1_addMeasure : GoodIn wsL_addMeasure (wsV RL 7 RX1 yX1_addMeasure wsX1_addMeasure) := goodIn_app (goodIn_of _ (by decide +kernel)) ggL_addMeasure_X1_addMeasure
theorem dL_addMeasure_0 : decode cL_addMeasure 0 = .ok (.aload 4, 2) := by decide +kernel
theorem dL_addMeasure_2 : decode cL_addMeasure 2 = .ok (.iconst 0, 1) := by decide +kernel
theorem dL_addMeasure_3 : decode cL_addMeasure 3 = .ok (.aload_n 0, 1) := by decide +kernel
theorem dL_addMeasure_4 : decode cL_addMeasure 4 = .ok (.iload_n 1, 1) := by decide +kernel
theorem dL_addMeasure_5 : decode cL_addMeasure 5 = .ok (.iload_n 2, 1) := by decide +kernel
theorem dL_addMeasure_6 : decode cL_addMeasure 6 = .ok (.iload_n 3, 1) := by decide +kernel
theorem dL_addMeasure_7 : decode cL_addMeasure 7 = .ok (.invokevirtual 7, 3) := by decide +kernel
theorem dL_addMeasure_10 : decode cL_addMeasure 10 = .ok (.i2l, 1) := by decide +kernel
theorem dL_addMeasure_11 : decode cL_addMeasure 11 = .ok (.lastore, 1) := by decide +kernel
theorem dL_addMeasure_12 : decode cL_addMeasure 12 = .ok (.goto 15, 3) := by decide +kernel
theorem dL_addMeasure_15 : decode cL_addMeasure 15 = .ok (.astore 5, 2) := by decide +kernel
theorem dL_addMeasure_17 : decode cL_addMeasure 17 = .ok (.iconst 1, 1) := by decide +kernel
theorem dL_addMeasure_18 : decode cL_addMeasure 18 = .ok (.ireturn, 1) := by decide +kernel
theorem dL_addMeasure_19 : decode cL_addMeasure 19 = .ok (.astore 5, 2) := by decide +kernel
theorem dL_addMeasure_21 : decode cL_addMeasure 21 = .ok (.iconst 2, 1) := by decide +kernel
theorem dL_addMeasure_22 : decode cL_addMeasure 22 = .ok (.ireturn, 1) := by decide +kernel
theorem dL_addMeasure_23 : decode cL_addMeasure 23 = .ok (.astore 5, 2) := by decide +kernel
theorem dL_addMeasure_25 : decode cL_addMeasure 25 = .ok (.iconst 3, 1) := by decide +kernel
theorem dL_addMeasure_26 : decode cL_addMeasure 26 = .ok (.ireturn, 1) := by decide +kernel
theorem dL_addMeasure_27 : decode cL_addMeasure 27 = .ok (.iconst 0, 1) := by decide +kernel
theorem dL_addMeasure_28 : decode cL_addMeasure 28 = .ok (.ireturn, 1) := by decide +kernel
set_option maxRecDepth 20000 in
theorem ggL_setStandard_X1_setStandard : GoodIn wsL_setStandard wsX1_setStandard := goodIn_ca (goodIn_r _ [6, 7, 8, 9, 10, 5, 11, 12, 13, 14, 15, 16, 17, 18, 19, 20, 21, 22, 23, 24, 25, 26] (by decide +kernel) (by decide +kernel)) (goodIn_sub (fun _ h => List.mem_cons_of_mem _ (List.mem_append_right _ h)) (by decide +kernel))
set_option maxRecDepth 20000 in
theorem gL_setStandard_X1_setStandard : GoodIn wsL_setStandard (wsV RL 19 RX1 yX1_setStandard wsX1_setStandard) := goodIn_app (goodIn_of _ (by decide +kernel)) ggL_setStandard_X1_setStandard
theorem dL_setStandard_0 : decode cL_setStandard 0 = .ok (.aload_n 2, 1) := by decide +kernel
theorem dL_setStandard_1 : decode cL_setStandard 1 = .ok (.iconst 0, 1) := by decide +kernel
theorem dL_setStandard_2 : decode cL_setStandard 2 = .ok (.aload_n 0, 1) := by decide +kernel
theorem dL_setStandard_3 : decode cL_setStandard 3 = .ok (.iload_n 1, 1) := by decide +kernel
theorem dL_setStandard_4 : decode cL_setStandard 4 = .ok (.invokevirtual 19, 3) := by decide +kernel
theorem dL_setStandard_7 : decode cL_setStandard 7 = .ok (.i2l, 1) := by decide +kernel
theorem dL_setStandard_8 : decode cL_setStandard 8 = .ok (.lastore, 1) := by decide +kernel
theorem dL_setStandard_9 : decode cL_setStandard 9 = .ok (.goto 6, 3) := by decide +kernel
theorem dL_setStandard_12 : decode cL_setStandard 12 = .ok (.astore_n 3, 1) := by decide +kernel
theorem dL_setStandard_13 : decode cL_setStandard 13 = .ok (.iconst 1, 1) := by decide +kernel
theorem dL_setStandard_14 : decode cL_setStandard 14 = .ok (.ireturn, 1) := by decide +kernel
theorem dL_setStandard_15 : decode cL_setStandard 15 = .ok (.iconst 0, 1) := by decide +kernel
theorem dL_setStandard_16 : decode cL_setStandard 16 = .ok (.ireturn, 1) := by decide +kernel
set_option maxRecDepth 20000 in
theorem ggL_addStall_X1_addStall : GoodIn wsL_addStall wsX1_addStall := goodIn_ca (goodIn_ca (goodIn_r _ [7, 8, 9, 10, 11, 12, 6, 13, 14, 15, 16, 17, 18, 19, 20, 21, 22, 23, 24, 25, 26, 27, 28, 29, 30, 31, 32] (by decide +kernel) (by decide +kernel)) (goodIn_sub (fun _ h => List.mem_cons_of_mem _ (List.mem_append_left _ (List.mem_append_right _ h))) (by decide +kernel))) (goodIn_sub (fun _ h => List.mem_cons_of_mem _ (List.mem_append_right _ h)) (by decide +kernel))
set_option maxRecDepth 20000 in
theorem gL_addStall_X1_addStall : GoodIn wsL_addStall (wsV RL 23 RX1 yX1_addStall wsX1_addStall) := goodIn_app (goodIn_of _ (by decide +kernel)) ggL_addStall_X1_addStall
theorem dL_addStall_0 : decode cL_addStall 0 = .ok (.aload_n 2, 1) := by decide +kernel
theorem dL_addStall_1 : decode cL_addStall 1 = .ok (.iconst 0, 1) := by decide +kernel
theorem dL_addStall_2 : decode cL_addStall 2 = .ok (.aload_n 0, 1) := by decide +kernel
theorem dL_addStall_3 : decode cL_addStall 3 = .ok (.iload_n 1, 1) := by decide +kernel
theorem dL_addStall_4 : decode cL_addStall 4 = .ok (.invokevirtual 23, 3) := by decide +kernel
theorem dL_addStall_7 : decode cL_addStall 7 = .ok (.i2l, 1) := by decide +kernel
theorem dL_addStall_8 : decode cL_addStall 8 = .ok (.lastore, 1) := by decide +kernel
theorem dL_addStall_9 : decode cL_addStall 9 = .ok (.goto 9, 3) := by decide +kernel
theorem dL_addStall_12 : decode cL_addStall 12 = .ok (.astore_n 3, 1) := by decide +kernel
theorem dL_addStall_13 : decode cL_addStall 13 = .ok (.iconst 1, 1) := by decide +kernel
theorem dL_addStall_14 : decode cL_addStall 14 = .ok (.ireturn, 1) := by decide +kernel
theorem dL_addStall_15 : decode cL_addStall 15 = .ok (.astore_n 3, 1) := by decide +kernel
theorem dL_addStall_16 : decode cL_addStall 16 = .ok (.iconst 2, 1) := by decide +kernel
theorem dL_addStall_17 : decode cL_addStall 17 = .ok (.ireturn, 1) := by decide +kernel
theorem dL_addStall_18 : decode cL_addStall 18 = .ok (.iconst 0, 1) := by decide +kernel
theorem dL_addStall_19 : decode cL_addStall 19 = .ok (.ireturn, 1) := by decide +kernel
set_option maxRecDepth 20000 in
theorem ggL_setWear_X1_setWear : GoodIn wsL_setWear wsX1_setWear := goodIn_ca (goodIn_ca (goodIn_r _ [7, 8, 9, 10, 11, 6, 12, 13, 14, 15, 16, 17, 18, 19, 20, 21, 22, 23, 24, 25, 26, 27, 28, 29, 30, 31, 32, 33, 34, 35, 36] (by decide +kernel) (by decide +kernel)) (goodIn_sub (fun _ h => List.mem_cons_of_mem _ (List.mem_append_left _ (List.mem_append_right _ h))) (by decide +kernel))) (goodIn_sub (fun _ h => List.mem_cons_of_mem _ (List.mem_append_right _ h)) (by decide +kernel))
set_option maxRecDepth 20000 in
theorem gL_setWear_X1_setWear : GoodIn wsL_setWear (wsV RL 26 RX1 yX1_setWear wsX1_setWear) := goodIn_app (goodIn_of _ (by decide +kernel)) ggL_setWear_X1_setWear
theorem dL_setWear_0 : decode cL_setWear 0 = .ok (.aload_n 3, 1) := by decide +kernel
theorem dL_setWear_1 : decode cL_setWear 1 = .ok (.iconst 0, 1) := by decide +kernel
theorem dL_setWear_2 : decode cL_setWear 2 = .ok (.aload_n 0, 1) := by decide +kernel
theorem dL_setWear_3 : decode cL_setWear 3 = .ok (.iload_n 1, 1) := by decide +kernel
theorem dL_setWear_4 : decode cL_setWear 4 = .ok (.iload_n 2, 1) := by decide +kernel
theorem dL_setWear_5 : decode cL_setWear 5 = .ok (.invokevirtual 26, 3) := by decide +kernel
theorem dL_setWear_8 : decode cL_setWear 8 = .ok (.i2l, 1) := by decide +kernel
theorem dL_setWear_9 : decode cL_setWear 9 = .ok (.lastore, 1) := by decide +kernel
theorem dL_setWear_10 : decode cL_setWear 10 = .ok (.goto 11, 3) := by decide +kernel
theorem dL_setWear_13 : decode cL_setWear 13 = .ok (.astore 4, 2) := by decide +kernel
theorem dL_setWear_15 : decode cL_setWear 15 = .ok (.iconst 1, 1) := by decide +kernel
theorem dL_setWear_16 : decode cL_setWear 16 = .ok (.ireturn, 1) := by decide +kernel
theorem dL_setWear_17 : decode cL_setWear 17 = .ok (.astore 4, 2) := by decide +kernel
theorem dL_setWear_19 : decode cL_setWear 19 = .ok (.iconst 2, 1) := by decide +kernel
theorem dL_setWear_20 : decode cL_setWear 20 = .ok (.ireturn, 1) := by decide +kernel
theorem dL_setWear_21 : decode cL_setWear 21 = .ok (.iconst 0, 1) := by decide +kernel
theorem dL_setWear_22 : decode cL_setWear 22 = .ok (.ireturn, 1) := by decide +kernel
set_option maxRecDepth 20000 in
theorem ggL_seal_X1_seal : GoodIn wsL_seal wsX1_seal := goodIn_ca (goodIn_r _ [6, 7, 8, 9, 10, 5, 11, 12, 13, 14, 15, 16, 17, 18, 19, 20, 21, 22, 23, 24, 25, 26, 27, 28, 29, 30] (by decide +kernel) (by decide +kernel)) (goodIn_sub (fun _ h => List.mem_cons_of_mem _ (List.mem_append_right _ h)) (by decide +kernel))
set_option maxRecDepth 20000 in
theorem gL_seal_X1_seal : GoodIn wsL_seal (wsV RL 30 RX1 yX1_seal wsX1_seal) := goodIn_app (goodIn_of _ (by decide +kernel)) ggL_seal_X1_seal
theorem dL_seal_0 : decode cL_seal 0 = .ok (.aload_n 2, 1) := by decide +kernel
theorem dL_seal_1 : decode cL_seal 1 = .ok (.iconst 0, 1) := by decide +kernel
theorem dL_seal_2 : decode cL_seal 2 = .ok (.aload_n 0, 1) := by decide +kernel
theorem dL_seal_3 : decode cL_seal 3 = .ok (.iload_n 1, 1) := by decide +kernel
theorem dL_seal_4 : decode cL_seal 4 = .ok (.invokevirtual 30, 3) := by decide +kernel
theorem dL_seal_7 : decode cL_seal 7 = .ok (.i2l, 1) := by decide +kernel
theorem dL_seal_8 : decode cL_seal 8 = .ok (.lastore, 1) := by decide +kernel
theorem dL_seal_9 : decode cL_seal 9 = .ok (.goto 6, 3) := by decide +kernel
theorem dL_seal_12 : decode cL_seal 12 = .ok (.astore_n 3, 1) := by decide +kernel
theorem dL_seal_13 : decode cL_seal 13 = .ok (.iconst 1, 1) := by decide +kernel
theorem dL_seal_14 : decode cL_seal 14 = .ok (.ireturn, 1) := by decide +kernel
theorem dL_seal_15 : decode cL_seal 15 = .ok (.iconst 0, 1) := by decide +kernel
theorem dL_seal_16 : decode cL_seal 16 = .ok (.ireturn, 1) := by decide +kernel
set_option maxRecDepth 20000 in
theorem ggL_setTolerance_X1_setTolerance : GoodIn wsL_setTolerance wsX1_setTolerance := goodIn_ca (goodIn_r _ [6, 7, 8, 9, 10, 11, 5, 12, 13, 14, 15, 16, 17, 18, 19, 20, 21, 22, 23, 24, 25, 26] (by decide +kernel) (by decide +kernel)) (goodIn_sub (fun _ h => List.mem_cons_of_mem _ (List.mem_append_right _ h)) (by decide +kernel))
set_option maxRecDepth 20000 in
theorem gL_setTolerance_X1_setTolerance : GoodIn wsL_setTolerance (wsV RL 33 RX1 yX1_setTolerance wsX1_setTolerance) := goodIn_app (goodIn_of _ (by decide +kernel)) ggL_setTolerance_X1_setTolerance
theorem dL_setTolerance_0 : decode cL_setTolerance 0 = .ok (.aload_n 2, 1) := by decide +kernel
theorem dL_setTolerance_1 : decode cL_setTolerance 1 = .ok (.iconst 0, 1) := by decide +kernel
theorem dL_setTolerance_2 : decode cL_setTolerance 2 = .ok (.aload_n 0, 1) := by decide +kernel
theorem dL_setTolerance_3 : decode cL_setTolerance 3 = .ok (.iload_n 1, 1) := by decide +kernel
theorem dL_setTolerance_4 : decode cL_setTolerance 4 = .ok (.invokevirtual 33, 3) := by decide +kernel
theorem dL_setTolerance_7 : decode cL_setTolerance 7 = .ok (.i2l, 1) := by decide +kernel
theorem dL_setTolerance_8 : decode cL_setTolerance 8 = .ok (.lastore, 1) := by decide +kernel
theorem dL_setTolerance_9 : decode cL_setTolerance 9 = .ok (.goto 6, 3) := by decide +kernel
theorem dL_setTolerance_12 : decode cL_setTolerance 12 = .ok (.astore_n 3, 1) := by decide +kernel
theorem dL_setTolerance_13 : decode cL_setTolerance 13 = .ok (.iconst 1, 1) := by decide +kernel
theorem dL_setTolerance_14 : decode cL_setTolerance 14 = .ok (.ireturn, 1) := by decide +kernel
theorem dL_setTolerance_15 : decode cL_setTolerance 15 = .ok (.iconst 0, 1) := by decide +kernel
theorem dL_setTolerance_16 : decode cL_setTolerance 16 = .ok (.ireturn, 1) := by decide +kernel
set_option maxRecDepth 20000 in
theorem ggL_passDays_X1_passDays : GoodIn wsL_passDays wsX1_passDays := goodIn_ca (goodIn_r _ [6, 7, 8, 9, 10, 5, 11, 12, 13, 14, 15, 16, 17, 18, 19, 20, 21, 22, 23, 24, 25, 26, 27, 28, 29, 30, 31, 32, 33, 34, 35, 36, 37, 38, 39, 40, 41, 42, 43, 44, 45, 46, 47, 48, 49, 50, 51, 52, 53, 54, 55, 56, 57, 58, 59, 60, 61, 62, 63, 64, 65, 66, 67, 68, 69, 70, 71, 72] (by decide +kernel) (by decide +kernel)) (goodIn_sub (fun _ h => List.mem_cons_of_mem _ (List.mem_append_right _ h)) (by decide +kernel))
set_option maxRecDepth 20000 in
theorem gL_passDays_X1_passDays : GoodIn wsL_passDays (wsV RL 36 RX1 yX1_passDays wsX1_passDays) := goodIn_app (goodIn_of _ (by decide +kernel)) ggL_passDays_X1_passDays
theorem dL_passDays_0 : decode cL_passDays 0 = .ok (.aload_n 2, 1) := by decide +kernel
theorem dL_passDays_1 : decode cL_passDays 1 = .ok (.iconst 0, 1) := by decide +kernel
theorem dL_passDays_2 : decode cL_passDays 2 = .ok (.aload_n 0, 1) := by decide +kernel
theorem dL_passDays_3 : decode cL_passDays 3 = .ok (.iload_n 1, 1) := by decide +kernel
theorem dL_passDays_4 : decode cL_passDays 4 = .ok (.invokevirtual 36, 3) := by decide +kernel
theorem dL_passDays_7 : decode cL_passDays 7 = .ok (.i2l, 1) := by decide +kernel
theorem dL_passDays_8 : decode cL_passDays 8 = .ok (.lastore, 1) := by decide +kernel
theorem dL_passDays_9 : decode cL_passDays 9 = .ok (.goto 6, 3) := by decide +kernel
theorem dL_passDays_12 : decode cL_passDays 12 = .ok (.astore_n 3, 1) := by decide +kernel
theorem dL_passDays_13 : decode cL_passDays 13 = .ok (.iconst 1, 1) := by decide +kernel
theorem dL_passDays_14 : decode cL_passDays 14 = .ok (.ireturn, 1) := by decide +kernel
theorem dL_passDays_15 : decode cL_passDays 15 = .ok (.iconst 0, 1) := by decide +kernel
theorem dL_passDays_16 : decode cL_passDays 16 = .ok (.ireturn, 1) := by decide +kernel
set_option maxRecDepth 20000 in
theorem ggL_baseOf_X1_baseOf : GoodIn wsL_baseOf wsX1_baseOf := goodIn_ca (goodIn_r _ [6, 7, 8, 9, 10, 5, 11, 12, 13, 14, 15, 16, 17, 18, 19, 20, 21, 22, 23, 24, 25, 26] (by decide +kernel) (by decide +kernel)) (goodIn_sub (fun _ h => List.mem_cons_of_mem _ (List.mem_append_right _ h)) (by decide +kernel))
set_option maxRecDepth 20000 in
theorem gL_baseOf_X1_baseOf : GoodIn wsL_baseOf (wsV RL 39 RX1 yX1_baseOf wsX1_baseOf) := goodIn_app (goodIn_of _ (by decide +kernel)) ggL_baseOf_X1_baseOf
theorem dL_baseOf_0 : decode cL_baseOf 0 = .ok (.aload_n 2, 1) := by decide +kernel
theorem dL_baseOf_1 : decode cL_baseOf 1 = .ok (.iconst 0, 1) := by decide +kernel
theorem dL_baseOf_2 : decode cL_baseOf 2 = .ok (.aload_n 0, 1) := by decide +kernel
theorem dL_baseOf_3 : decode cL_baseOf 3 = .ok (.iload_n 1, 1) := by decide +kernel
theorem dL_baseOf_4 : decode cL_baseOf 4 = .ok (.invokevirtual 39, 3) := by decide +kernel
theorem dL_baseOf_7 : decode cL_baseOf 7 = .ok (.i2l, 1) := by decide +kernel
theorem dL_baseOf_8 : decode cL_baseOf 8 = .ok (.lastore, 1) := by decide +kernel
theorem dL_baseOf_9 : decode cL_baseOf 9 = .ok (.goto 6, 3) := by decide +kernel
theorem dL_baseOf_12 : decode cL_baseOf 12 = .ok (.astore_n 3, 1) := by decide +kernel
theorem dL_baseOf_13 : decode cL_baseOf 13 = .ok (.iconst 1, 1) := by decide +kernel
theorem dL_baseOf_14 : decode cL_baseOf 14 = .ok (.ireturn, 1) := by decide +kernel
theorem dL_baseOf_15 : decode cL_baseOf 15 = .ok (.iconst 0, 1) := by decide +kernel
theorem dL_baseOf_16 : decode cL_baseOf 16 = .ok (.ireturn, 1) := by decide +kernel
set_option maxRecDepth 20000 in
theorem ggL_stepsToEll_X1_stepsToEll : GoodIn wsL_stepsToEll wsX1_stepsToEll := goodIn_ca (goodIn_r _ [6, 7, 8, 9, 10, 5, 11, 12, 13, 14, 15, 16, 17, 18, 19, 20, 21, 22, 23, 24, 25, 26] (by decide +kernel) (by decide +kernel)) (goodIn_sub (fun _ h => List.mem_cons_of_mem _ (List.mem_append_right _ h)) (by decide +kernel))
set_option maxRecDepth 20000 in
theorem gL_stepsToEll_X1_stepsToEll : GoodIn wsL_stepsToEll (wsV RL 42 RX1 yX1_stepsToEll wsX1_stepsToEll) := goodIn_app (goodIn_of _ (by decide +kernel)) ggL_stepsToEll_X1_stepsToEll
theorem dL_stepsToEll_0 : decode cL_stepsToEll 0 = .ok (.aload_n 2, 1) := by decide +kernel
theorem dL_stepsToEll_1 : decode cL_stepsToEll 1 = .ok (.iconst 0, 1) := by decide +kernel
theorem dL_stepsToEll_2 : decode cL_stepsToEll 2 = .ok (.aload_n 0, 1) := by decide +kernel
theorem dL_stepsToEll_3 : decode cL_stepsToEll 3 = .ok (.iload_n 1, 1) := by decide +kernel
theorem dL_stepsToEll_4 : decode cL_stepsToEll 4 = .ok (.invokevirtual 42, 3) := by decide +kernel
theorem dL_stepsToEll_7 : decode cL_stepsToEll 7 = .ok (.i2l, 1) := by decide +kernel
theorem dL_stepsToEll_8 : decode cL_stepsToEll 8 = .ok (.lastore, 1) := by decide +kernel
theorem dL_stepsToEll_9 : decode cL_stepsToEll 9 = .ok (.goto 6, 3) := by decide +kernel
theorem dL_stepsToEll_12 : decode cL_stepsToEll 12 = .ok (.astore_n 3, 1) := by decide +kernel
theorem dL_stepsToEll_13 : decode cL_stepsToEll 13 = .ok (.iconst 1, 1) := by decide +kernel
theorem dL_stepsToEll_14 : decode cL_stepsToEll 14 = .ok (.ireturn, 1) := by decide +kernel
theorem dL_stepsToEll_15 : decode cL_stepsToEll 15 = .ok (.iconst 0, 1) := by decide +kernel
theorem dL_stepsToEll_16 : decode cL_stepsToEll 16 = .ok (.ireturn, 1) := by decide +kernel
set_option maxRecDepth 20000 in
theorem ggL_lengthTop_X1_lengthTop : GoodIn wsL_lengthTop wsX1_lengthTop := goodIn_ca (goodIn_r _ [6, 7, 8, 9, 10, 11, 5, 12, 13, 14, 15, 16, 17, 18, 19, 20, 21, 22, 23, 24, 25, 26, 27, 28, 29, 30, 31, 32, 33, 34, 35, 36] (by decide +kernel) (by decide +kernel)) (goodIn_sub (fun _ h => List.mem_cons_of_mem _ (List.mem_append_right _ h)) (by decide +kernel))
set_option maxRecDepth 20000 in
theorem gL_lengthTop_X1_lengthTop : GoodIn wsL_lengthTop (wsV RL 45 RX1 yX1_lengthTop wsX1_lengthTop) := goodIn_app (goodIn_of _ (by decide +kernel)) ggL_lengthTop_X1_lengthTop
theorem dL_lengthTop_0 : decode cL_lengthTop 0 = .ok (.aload_n 2, 1) := by decide +kernel
theorem dL_lengthTop_1 : decode cL_lengthTop 1 = .ok (.iconst 0, 1) := by decide +kernel
theorem dL_lengthTop_2 : decode cL_lengthTop 2 = .ok (.aload_n 0, 1) := by decide +kernel
theorem dL_lengthTop_3 : decode cL_lengthTop 3 = .ok (.iload_n 1, 1) := by decide +kernel
theorem dL_lengthTop_4 : decode cL_lengthTop 4 = .ok (.invokevirtual 45, 3) := by decide +kernel
theorem dL_lengthTop_7 : decode cL_lengthTop 7 = .ok (.lastore, 1) := by decide +kernel
theorem dL_lengthTop_8 : decode cL_lengthTop 8 = .ok (.goto 6, 3) := by decide +kernel
theorem dL_lengthTop_11 : decode cL_lengthTop 11 = .ok (.astore_n 3, 1) := by decide +kernel
theorem dL_lengthTop_12 : decode cL_lengthTop 12 = .ok (.iconst 1, 1) := by decide +kernel
theorem dL_lengthTop_13 : decode cL_lengthTop 13 = .ok (.ireturn, 1) := by decide +kernel
theorem dL_lengthTop_14 : decode cL_lengthTop 14 = .ok (.iconst 0, 1) := by decide +kernel
theorem dL_lengthTop_15 : decode cL_lengthTop 15 = .ok (.ireturn, 1) := by decide +kernel
set_option maxRecDepth 20000 in
theorem ggL_lengthBottom_X1_lengthBottom : GoodIn wsL_lengthBottom wsX1_lengthBottom := goodIn_ca (goodIn_r _ [6, 7, 8, 9, 10, 11, 5, 12, 13, 14, 15, 16, 17, 18, 19, 20, 21, 22, 23, 24, 25, 26, 27, 28, 29, 30, 31, 32, 33, 34, 35, 36] (by decide +kernel) (by decide +kernel)) (goodIn_sub (fun _ h => List.mem_cons_of_mem _ (List.mem_append_right _ h)) (by decide +kernel))
set_option maxRecDepth 20000 in
theorem gL_lengthBottom_X1_lengthBottom : GoodIn wsL_lengthBottom (wsV RL 49 RX1 yX1_lengthBottom wsX1_lengthBottom) := goodIn_app (goodIn_of _ (by decide +kernel)) ggL_lengthBottom_X1_lengthBottom
theorem dL_lengthBottom_0 : decode cL_lengthBottom 0 = .ok (.aload_n 2, 1) := by decide +kernel
theorem dL_lengthBottom_1 : decode cL_lengthBottom 1 = .ok (.iconst 0, 1) := by decide +kernel
theorem dL_lengthBottom_2 : decode cL_lengthBottom 2 = .ok (.aload_n 0, 1) := by decide +kernel
theorem dL_lengthBottom_3 : decode cL_lengthBottom 3 = .ok (.iload_n 1, 1) := by decide +kernel
theorem dL_lengthBottom_4 : decode cL_lengthBottom 4 = .ok (.invokevirtual 49, 3) := by decide +kernel
theorem dL_lengthBottom_7 : decode cL_lengthBottom 7 = .ok (.lastore, 1) := by decide +kernel
theorem dL_lengthBottom_8 : decode cL_lengthBottom 8 = .ok (.goto 6, 3) := by decide +kernel
theorem dL_lengthBottom_11 : decode cL_lengthBottom 11 = .ok (.astore_n 3, 1) := by decide +kernel
theorem dL_lengthBottom_12 : decode cL_lengthBottom 12 = .ok (.iconst 1, 1) := by decide +kernel
theorem dL_lengthBottom_13 : decode cL_lengthBottom 13 = .ok (.ireturn, 1) := by decide +kernel
theorem dL_lengthBottom_14 : decode cL_lengthBottom 14 = .ok (.iconst 0, 1) := by decide +kernel
theorem dL_lengthBottom_15 : decode cL_lengthBottom 15 = .ok (.ireturn, 1) := by decide +kernel
set_option maxRecDepth 20000 in
theorem ggL_isLonger_X1_isLonger : GoodIn wsL_isLonger wsX1_isLonger := goodIn_ca (goodIn_r _ [6, 7, 8, 9, 10, 5, 11, 12, 13, 14, 15, 16, 17, 18, 19, 20, 21, 22, 23, 24, 25, 26] (by decide +kernel) (by decide +kernel)) (goodIn_sub (fun _ h => List.mem_cons_of_mem _ (List.mem_append_right _ h)) (by decide +kernel))
set_option maxRecDepth 20000 in
theorem gL_isLonger_X1_isLonger : GoodIn wsL_isLonger (wsV RL 52 RX1 yX1_isLonger wsX1_isLonger) := goodIn_app (goodIn_of _ (by decide +kernel)) ggL_isLonger_X1_isLonger
theorem dL_isLonger_0 : decode cL_isLonger 0 = .ok (.aload_n 3, 1) := by decide +kernel
theorem dL_isLonger_1 : decode cL_isLonger 1 = .ok (.iconst 0, 1) := by decide +kernel
theorem dL_isLonger_2 : decode cL_isLonger 2 = .ok (.aload_n 0, 1) := by decide +kernel
theorem dL_isLonger_3 : decode cL_isLonger 3 = .ok (.iload_n 1, 1) := by decide +kernel
theorem dL_isLonger_4 : decode cL_isLonger 4 = .ok (.iload_n 2, 1) := by decide +kernel
theorem dL_isLonger_5 : decode cL_isLonger 5 = .ok (.invokevirtual 52, 3) := by decide +kernel
theorem dL_isLonger_8 : decode cL_isLonger 8 = .ok (.ifCond .eq 7, 3) := by decide +kernel
theorem dL_isLonger_11 : decode cL_isLonger 11 = .ok (.lconst 1, 1) := by decide +kernel
theorem dL_isLonger_12 : decode cL_isLonger 12 = .ok (.goto 4, 3) := by decide +kernel
theorem dL_isLonger_15 : decode cL_isLonger 15 = .ok (.lconst 0, 1) := by decide +kernel
theorem dL_isLonger_16 : decode cL_isLonger 16 = .ok (.lastore, 1) := by decide +kernel
theorem dL_isLonger_17 : decode cL_isLonger 17 = .ok (.goto 7, 3) := by decide +kernel
theorem dL_isLonger_20 : decode cL_isLonger 20 = .ok (.astore 4, 2) := by decide +kernel
theorem dL_isLonger_22 : decode cL_isLonger 22 = .ok (.iconst 1, 1) := by decide +kernel
theorem dL_isLonger_23 : decode cL_isLonger 23 = .ok (.ireturn, 1) := by decide +kernel
theorem dL_isLonger_24 : decode cL_isLonger 24 = .ok (.iconst 0, 1) := by decide +kernel
theorem dL_isLonger_25 : decode cL_isLonger 25 = .ok (.ireturn, 1) := by decide +kernel
set_option maxRecDepth 20000 in
theorem ggL_fewestToMeet_X1_fewestToMeet : GoodIn wsL_fewestToMeet wsX1_fewestToMeet := goodIn_ca (goodIn_r _ [6, 7, 8, 9, 10, 5, 11, 12, 13, 14, 15, 16, 17, 18, 19, 20, 21, 22, 23, 24, 25, 26, 27, 28, 29, 30, 31, 32, 33, 34, 35] (by decide +kernel) (by decide +kernel)) (goodIn_sub (fun _ h => List.mem_cons_of_mem _ (List.mem_append_right _ h)) (by decide +kernel))
set_option maxRecDepth 20000 in
theorem gL_fewestToMeet_X1_fewestToMeet : GoodIn wsL_fewestToMeet (wsV RL 56 RX1 yX1_fewestToMeet wsX1_fewestToMeet) := goodIn_app (goodIn_of _ (by decide +kernel)) ggL_fewestToMeet_X1_fewestToMeet
theorem dL_fewestToMeet_0 : decode cL_fewestToMeet 0 = .ok (.aload_n 3, 1) := by decide +kernel
theorem dL_fewestToMeet_1 : decode cL_fewestToMeet 1 = .ok (.iconst 0, 1) := by decide +kernel
theorem dL_fewestToMeet_2 : decode cL_fewestToMeet 2 = .ok (.aload_n 0, 1) := by decide +kernel
theorem dL_fewestToMeet_3 : decode cL_fewestToMeet 3 = .ok (.iload_n 1, 1) := by decide +kernel
theorem dL_fewestToMeet_4 : decode cL_fewestToMeet 4 = .ok (.iload_n 2, 1) := by decide +kernel
theorem dL_fewestToMeet_5 : decode cL_fewestToMeet 5 = .ok (.invokevirtual 56, 3) := by decide +kernel
theorem dL_fewestToMeet_8 : decode cL_fewestToMeet 8 = .ok (.lastore, 1) := by decide +kernel
theorem dL_fewestToMeet_9 : decode cL_fewestToMeet 9 = .ok (.goto 7, 3) := by decide +kernel
theorem dL_fewestToMeet_12 : decode cL_fewestToMeet 12 = .ok (.astore 4, 2) := by decide +kernel
theorem dL_fewestToMeet_14 : decode cL_fewestToMeet 14 = .ok (.iconst 1, 1) := by decide +kernel
theorem dL_fewestToMeet_15 : decode cL_fewestToMeet 15 = .ok (.ireturn, 1) := by decide +kernel
theorem dL_fewestToMeet_16 : decode cL_fewestToMeet 16 = .ok (.iconst 0, 1) := by decide +kernel
theorem dL_fewestToMeet_17 : decode cL_fewestToMeet 17 = .ok (.ireturn, 1) := by decide +kernel
set_option maxRecDepth 20000 in
theorem ggL_convert_X1_convert : GoodIn wsL_convert wsX1_convert := goodIn_ca (goodIn_ca (goodIn_r _ [7, 8, 9, 10, 11, 6, 12, 13, 14, 15, 16, 17, 18, 19, 20, 21, 22, 23, 24, 25, 26, 27, 28, 29, 30, 31, 32, 33, 34, 35] (by decide +kernel) (by decide +kernel)) (goodIn_sub (fun _ h => List.mem_cons_of_mem _ (List.mem_append_left _ (List.mem_append_right _ h))) (by decide +kernel))) (goodIn_sub (fun _ h => List.mem_cons_of_mem _ (List.mem_append_right _ h)) (by decide +kernel))
set_option maxRecDepth 20000 in
theorem gL_convert_X1_convert : GoodIn wsL_convert (wsV RL 60 RX1 yX1_convert wsX1_convert) := goodIn_app (goodIn_of _ (by decide +kernel)) ggL_convert_X1_convert
theorem dL_convert_0 : decode cL_convert 0 = .ok (.aload 4, 2) := by decide +kernel
theorem dL_convert_2 : decode cL_convert 2 = .ok (.iconst 0, 1) := by decide +kernel
theorem dL_convert_3 : decode cL_convert 3 = .ok (.aload_n 0, 1) := by decide +kernel
theorem dL_convert_4 : decode cL_convert 4 = .ok (.iload_n 1, 1) := by decide +kernel
theorem dL_convert_5 : decode cL_convert 5 = .ok (.iload_n 2, 1) := by decide +kernel
theorem dL_convert_6 : decode cL_convert 6 = .ok (.iload_n 3, 1) := by decide +kernel
theorem dL_convert_7 : decode cL_convert 7 = .ok (.invokevirtual 60, 3) := by decide +kernel
theorem dL_convert_10 : decode cL_convert 10 = .ok (.lastore, 1) := by decide +kernel
theorem dL_convert_11 : decode cL_convert 11 = .ok (.goto 11, 3) := by decide +kernel
theorem dL_convert_14 : decode cL_convert 14 = .ok (.astore 5, 2) := by decide +kernel
theorem dL_convert_16 : decode cL_convert 16 = .ok (.iconst 1, 1) := by decide +kernel
theorem dL_convert_17 : decode cL_convert 17 = .ok (.ireturn, 1) := by decide +kernel
theorem dL_convert_18 : decode cL_convert 18 = .ok (.astore 5, 2) := by decide +kernel
theorem dL_convert_20 : decode cL_convert 20 = .ok (.iconst 2, 1) := by decide +kernel
theorem dL_convert_21 : decode cL_convert 21 = .ok (.ireturn, 1) := by decide +kernel
theorem dL_convert_22 : decode cL_convert 22 = .ok (.iconst 0, 1) := by decide +kernel
theorem dL_convert_23 : decode cL_convert 23 = .ok (.ireturn, 1) := by decide +kernel
set_option maxRecDepth 20000 in
theorem ggL_isExact_X1_isExact : GoodIn wsL_isExact wsX1_isExact := goodIn_ca (goodIn_ca (goodIn_r _ [7, 8, 9, 10, 11, 6, 12, 13, 14, 15, 16, 17, 18, 19, 20, 21, 22, 23, 24, 25, 26, 27, 28, 29, 30, 31, 32, 33, 34, 35] (by decide +kernel) (by decide +kernel)) (goodIn_sub (fun _ h => List.mem_cons_of_mem _ (List.mem_append_left _ (List.mem_append_right _ h))) (by decide +kernel))) (goodIn_sub (fun _ h => List.mem_cons_of_mem _ (List.mem_append_right _ h)) (by decide +kernel))
set_option maxRecDepth 20000 in
theorem gL_isExact_X1_isExact : GoodIn wsL_isExact (wsV RL 64 RX1 yX1_isExact wsX1_isExact) := goodIn_app (goodIn_of _ (by decide +kernel)) ggL_isExact_X1_isExact
theorem dL_isExact_0 : decode cL_isExact 0 = .ok (.aload 4, 2) := by decide +kernel
theorem dL_isExact_2 : decode cL_isExact 2 = .ok (.iconst 0, 1) := by decide +kernel
theorem dL_isExact_3 : decode cL_isExact 3 = .ok (.aload_n 0, 1) := by decide +kernel
theorem dL_isExact_4 : decode cL_isExact 4 = .ok (.iload_n 1, 1) := by decide +kernel
theorem dL_isExact_5 : decode cL_isExact 5 = .ok (.iload_n 2, 1) := by decide +kernel
theorem dL_isExact_6 : decode cL_isExact 6 = .ok (.iload_n 3, 1) := by decide +kernel
theorem dL_isExact_7 : decode cL_isExact 7 = .ok (.invokevirtual 64, 3) := by decide +kernel
theorem dL_isExact_10 : decode cL_isExact 10 = .ok (.ifCond .eq 7, 3) := by decide +kernel
theorem dL_isExact_13 : decode cL_isExact 13 = .ok (.lconst 1, 1) := by decide +kernel
theorem dL_isExact_14 : decode cL_isExact 14 = .ok (.goto 4, 3) := by decide +kernel
theorem dL_isExact_17 : decode cL_isExact 17 = .ok (.lconst 0, 1) := by decide +kernel
theorem dL_isExact_18 : decode cL_isExact 18 = .ok (.lastore, 1) := by decide +kernel
theorem dL_isExact_19 : decode cL_isExact 19 = .ok (.goto 11, 3) := by decide +kernel
theorem dL_isExact_22 : decode cL_isExact 22 = .ok (.astore 5, 2) := by decide +kernel
theorem dL_isExact_24 : decode cL_isExact 24 = .ok (.iconst 1, 1) := by decide +kernel
theorem dL_isExact_25 : decode cL_isExact 25 = .ok (.ireturn, 1) := by decide +kernel
theorem dL_isExact_26 : decode cL_isExact 26 = .ok (.astore 5, 2) := by decide +kernel
theorem dL_isExact_28 : decode cL_isExact 28 = .ok (.iconst 2, 1) := by decide +kernel
theorem dL_isExact_29 : decode cL_isExact 29 = .ok (.ireturn, 1) := by decide +kernel
theorem dL_isExact_30 : decode cL_isExact 30 = .ok (.iconst 0, 1) := by decide +kernel
theorem dL_isExact_31 : decode cL_isExact 31 = .ok (.ireturn, 1) := by decide +kernel
set_option maxRecDepth 20000 in
theorem ggL_piecesOf_X1_piecesOf : GoodIn wsL_piecesOf wsX1_piecesOf := goodIn_ca (goodIn_ca (goodIn_r _ [7, 8, 9, 10, 11, 12, 13, 6, 14, 15, 16, 17, 18, 19, 20, 21, 22, 23, 24, 25, 26, 27, 28, 29, 30, 31, 32, 33, 34, 35, 36, 37, 38, 39, 40, 41, 42, 43] (by decide +kernel) (by decide +kernel)) (goodIn_sub (fun _ h => List.mem_cons_of_mem _ (List.mem_append_left _ (List.mem_append_right _ h))) (by decide +kernel))) (goodIn_sub (fun _ h => List.mem_cons_of_mem _ (List.mem_append_right _ h)) (by decide +kernel))
set_option maxRecDepth 20000 in
theorem gL_piecesOf_X1_piecesOf : GoodIn wsL_piecesOf (wsV RL 68 RX1 yX1_piecesOf wsX1_piecesOf) := goodIn_app (goodIn_of _ (by decide +kernel)) ggL_piecesOf_X1_piecesOf
theorem dL_piecesOf_0 : decode cL_piecesOf 0 = .ok (.aload 4, 2) := by decide +kernel
theorem dL_piecesOf_2 : decode cL_piecesOf 2 = .ok (.iconst 0, 1) := by decide +kernel
theorem dL_piecesOf_3 : decode cL_piecesOf 3 = .ok (.aload_n 0, 1) := by decide +kernel
theorem dL_piecesOf_4 : decode cL_piecesOf 4 = .ok (.iload_n 1, 1) := by decide +kernel
theorem dL_piecesOf_5 : decode cL_piecesOf 5 = .ok (.iload_n 2, 1) := by decide +kernel
theorem dL_piecesOf_6 : decode cL_piecesOf 6 = .ok (.iload_n 3, 1) := by decide +kernel
theorem dL_piecesOf_7 : decode cL_piecesOf 7 = .ok (.invokevirtual 68, 3) := by decide +kernel
theorem dL_piecesOf_10 : decode cL_piecesOf 10 = .ok (.lastore, 1) := by decide +kernel
theorem dL_piecesOf_11 : decode cL_piecesOf 11 = .ok (.goto 11, 3) := by decide +kernel
theorem dL_piecesOf_14 : decode cL_piecesOf 14 = .ok (.astore 5, 2) := by decide +kernel
theorem dL_piecesOf_16 : decode cL_piecesOf 16 = .ok (.iconst 1, 1) := by decide +kernel
theorem dL_piecesOf_17 : decode cL_piecesOf 17 = .ok (.ireturn, 1) := by decide +kernel
theorem dL_piecesOf_18 : decode cL_piecesOf 18 = .ok (.astore 5, 2) := by decide +kernel
theorem dL_piecesOf_20 : decode cL_piecesOf 20 = .ok (.iconst 2, 1) := by decide +kernel
theorem dL_piecesOf_21 : decode cL_piecesOf 21 = .ok (.ireturn, 1) := by decide +kernel
theorem dL_piecesOf_22 : decode cL_piecesOf 22 = .ok (.iconst 0, 1) := by decide +kernel
theorem dL_piecesOf_23 : decode cL_piecesOf 23 = .ok (.ireturn, 1) := by decide +kernel
set_option maxRecDepth 20000 in
theorem ggL_pieces_X1_pieces : GoodIn wsL_pieces wsX1_pieces := goodIn_ca (goodIn_ca (goodIn_r _ [7, 8, 9, 10, 11, 12, 6, 13, 14, 15, 16, 17, 18, 19, 20, 21, 22, 23, 24, 25, 26, 27, 28, 29, 30, 31, 32, 33, 34, 35, 36, 37, 38, 39, 40, 41, 42, 43] (by decide +kernel) (by decide +kernel)) (goodIn_sub (fun _ h => List.mem_cons_of_mem _ (List.mem_append_left _ (List.mem_append_right _ h))) (by decide +kernel))) (goodIn_sub (fun _ h => List.mem_cons_of_mem _ (List.mem_append_right _ h)) (by decide +kernel))
set_option maxRecDepth 20000 in
theorem gL_pieces_X1_pieces : GoodIn wsL_pieces (wsV RL 71 RX1 yX1_pieces wsX1_pieces) := goodIn_app (goodIn_of _ (by decide +kernel)) ggL_pieces_X1_pieces
theorem dL_pieces_0 : decode cL_pieces 0 = .ok (.aload_n 3, 1) := by decide +kernel
theorem dL_pieces_1 : decode cL_pieces 1 = .ok (.iconst 0, 1) := by decide +kernel
theorem dL_pieces_2 : decode cL_pieces 2 = .ok (.aload_n 0, 1) := by decide +kernel
theorem dL_pieces_3 : decode cL_pieces 3 = .ok (.iload_n 1, 1) := by decide +kernel
theorem dL_pieces_4 : decode cL_pieces 4 = .ok (.iload_n 2, 1) := by decide +kernel
theorem dL_pieces_5 : decode cL_pieces 5 = .ok (.invokevirtual 71, 3) := by decide +kernel
theorem dL_pieces_8 : decode cL_pieces 8 = .ok (.lastore, 1) := by decide +kernel
theorem dL_pieces_9 : decode cL_pieces 9 = .ok (.goto 11, 3) := by decide +kernel
theorem dL_pieces_12 : decode cL_pieces 12 = .ok (.astore 4, 2) := by decide +kernel
theorem dL_pieces_14 : decode cL_pieces 14 = .ok (.iconst 1, 1) := by decide +kernel
theorem dL_pieces_15 : decode cL_pieces 15 = .ok (.ireturn, 1) := by decide +kernel
theorem dL_pieces_16 : decode cL_pieces 16 = .ok (.astore 4, 2) := by decide +kernel
theorem dL_pieces_18 : decode cL_pieces 18 = .ok (.iconst 2, 1) := by decide +kernel
theorem dL_pieces_19 : decode cL_pieces 19 = .ok (.ireturn, 1) := by decide +kernel
theorem dL_pieces_20 : decode cL_pieces 20 = .ok (.iconst 0, 1) := by decide +kernel
theorem dL_pieces_21 : decode cL_pieces 21 = .ok (.ireturn, 1) := by decide +kernel
set_option maxRecDepth 20000 in
theorem ggL_isTold_X1_isTold : GoodIn wsL_isTold wsX1_isTold := goodIn_ca (goodIn_ca (goodIn_r _ [7, 8, 9, 10, 11, 12, 6, 13, 14, 15, 16, 17, 18, 19, 20, 21, 22, 23, 24, 25, 26, 27, 28, 29, 30, 31, 32, 33, 34, 35, 36, 37, 38, 39, 40] (by decide +kernel) (by decide +kernel)) (goodIn_sub (fun _ h => List.mem_cons_of_mem _ (List.mem_append_left _ (List.mem_append_right _ h))) (by decide +kernel))) (goodIn_sub (fun _ h => List.mem_cons_of_mem _ (List.mem_append_right _ h)) (by decide +kernel))
set_option maxRecDepth 20000 in
theorem gL_isTold_X1_isTold : GoodIn wsL_isTold (wsV RL 74 RX1 yX1_isTold wsX1_isTold) := goodIn_app (goodIn_of _ (by decide +kernel)) ggL_isTold_X1_isTold
theorem dL_isTold_0 : decode cL_isTold 0 = .ok (.aload_n 3, 1) := by decide +kernel
theorem dL_isTold_1 : decode cL_isTold 1 = .ok (.iconst 0, 1) := by decide +kernel
theorem dL_isTold_2 : decode cL_isTold 2 = .ok (.aload_n 0, 1) := by decide +kernel
theorem dL_isTold_3 : decode cL_isTold 3 = .ok (.iload_n 1, 1) := by decide +kernel
theorem dL_isTold_4 : decode cL_isTold 4 = .ok (.iload_n 2, 1) := by decide +kernel
theorem dL_isTold_5 : decode cL_isTold 5 = .ok (.invokevirtual 74, 3) := by decide +kernel
theorem dL_isTold_8 : decode cL_isTold 8 = .ok (.ifCond .eq 7, 3) := by decide +kernel
theorem dL_isTold_11 : decode cL_isTold 11 = .ok (.lconst 1, 1) := by decide +kernel
theorem dL_isTold_12 : decode cL_isTold 12 = .ok (.goto 4, 3) := by decide +kernel
theorem dL_isTold_15 : decode cL_isTold 15 = .ok (.lconst 0, 1) := by decide +kernel
theorem dL_isTold_16 : decode cL_isTold 16 = .ok (.lastore, 1) := by decide +kernel
theorem dL_isTold_17 : decode cL_isTold 17 = .ok (.goto 11, 3) := by decide +kernel
theorem dL_isTold_20 : decode cL_isTold 20 = .ok (.astore 4, 2) := by decide +kernel
theorem dL_isTold_22 : decode cL_isTold 22 = .ok (.iconst 1, 1) := by decide +kernel
theorem dL_isTold_23 : decode cL_isTold 23 = .ok (.ireturn, 1) := by decide +kernel
theorem dL_isTold_24 : decode cL_isTold 24 = .ok (.astore 4, 2) := by decide +kernel
theorem dL_isTold_26 : decode cL_isTold 26 = .ok (.iconst 2, 1) := by decide +kernel
theorem dL_isTold_27 : decode cL_isTold 27 = .ok (.ireturn, 1) := by decide +kernel
theorem dL_isTold_28 : decode cL_isTold 28 = .ok (.iconst 0, 1) := by decide +kernel
theorem dL_isTold_29 : decode cL_isTold 29 = .ok (.ireturn, 1) := by decide +kernel
set_option maxRecDepth 20000 in
theorem ggL_bestMeasure_X1_bestMeasure : GoodIn wsL_bestMeasure wsX1_bestMeasure := goodIn_ca (goodIn_ca (goodIn_r _ [7, 8, 9, 10, 11, 12, 13, 6, 14, 15, 16, 17, 18, 19, 20, 21, 22, 23, 24, 25, 26, 27, 28, 29, 30, 31, 32, 33, 34, 35, 36, 37, 38, 39, 40] (by decide +kernel) (by decide +kernel)) (goodIn_sub (fun _ h => List.mem_cons_of_mem _ (List.mem_append_left _ (List.mem_append_right _ h))) (by decide +kernel))) (goodIn_sub (fun _ h => List.mem_cons_of_mem _ (List.mem_append_right _ h)) (by decide +kernel))
set_option maxRecDepth 20000 in
theorem gL_bestMeasure_X1_bestMeasure : GoodIn wsL_bestMeasure (wsV RL 77 RX1 yX1_bestMeasure wsX1_bestMeasure) := goodIn_app (goodIn_of _ (by decide +kernel)) ggL_bestMeasure_X1_bestMeasure
theorem dL_bestMeasure_0 : decode cL_bestMeasure 0 = .ok (.aload_n 3, 1) := by decide +kernel
theorem dL_bestMeasure_1 : decode cL_bestMeasure 1 = .ok (.iconst 0, 1) := by decide +kernel
theorem dL_bestMeasure_2 : decode cL_bestMeasure 2 = .ok (.aload_n 0, 1) := by decide +kernel
theorem dL_bestMeasure_3 : decode cL_bestMeasure 3 = .ok (.iload_n 1, 1) := by decide +kernel
theorem dL_bestMeasure_4 : decode cL_bestMeasure 4 = .ok (.iload_n 2, 1) := by decide +kernel
theorem dL_bestMeasure_5 : decode cL_bestMeasure 5 = .ok (.invokevirtual 77, 3) := by decide +kernel
theorem dL_bestMeasure_8 : decode cL_bestMeasure 8 = .ok (.i2l, 1) := by decide +kernel
theorem dL_bestMeasure_9 : decode cL_bestMeasure 9 = .ok (.lastore, 1) := by decide +kernel
theorem dL_bestMeasure_10 : decode cL_bestMeasure 10 = .ok (.goto 11, 3) := by decide +kernel
theorem dL_bestMeasure_13 : decode cL_bestMeasure 13 = .ok (.astore 4, 2) := by decide +kernel
theorem dL_bestMeasure_15 : decode cL_bestMeasure 15 = .ok (.iconst 1, 1) := by decide +kernel
theorem dL_bestMeasure_16 : decode cL_bestMeasure 16 = .ok (.ireturn, 1) := by decide +kernel
theorem dL_bestMeasure_17 : decode cL_bestMeasure 17 = .ok (.astore 4, 2) := by decide +kernel
theorem dL_bestMeasure_19 : decode cL_bestMeasure 19 = .ok (.iconst 2, 1) := by decide +kernel
theorem dL_bestMeasure_20 : decode cL_bestMeasure 20 = .ok (.ireturn, 1) := by decide +kernel
theorem dL_bestMeasure_21 : decode cL_bestMeasure 21 = .ok (.iconst 0, 1) := by decide +kernel
theorem dL_bestMeasure_22 : decode cL_bestMeasure 22 = .ok (.ireturn, 1) := by decide +kernel
set_option maxRecDepth 20000 in
theorem ggL_driftOf_X1_driftOf : GoodIn wsL_driftOf wsX1_driftOf := goodIn_ca (goodIn_r _ [6, 7, 8, 9, 10, 5, 11, 12, 13, 14, 15, 16, 17, 18, 19, 20, 21, 22, 23, 24, 25, 26, 27, 28, 29, 30] (by decide +kernel) (by decide +kernel)) (goodIn_sub (fun _ h => List.mem_cons_of_mem _ (List.mem_append_right _ h)) (by decide +kernel))
set_option maxRecDepth 20000 in
theorem gL_driftOf_X1_driftOf : GoodIn wsL_driftOf (wsV RL 80 RX1 yX1_driftOf wsX1_driftOf) := goodIn_app (goodIn_of _ (by decide +kernel)) ggL_driftOf_X1_driftOf
theorem dL_driftOf_0 : decode cL_driftOf 0 = .ok (.aload_n 2, 1) := by decide +kernel
theorem dL_driftOf_1 : decode cL_driftOf 1 = .ok (.iconst 0, 1) := by decide +kernel
theorem dL_driftOf_2 : decode cL_driftOf 2 = .ok (.aload_n 0, 1) := by decide +kernel
theorem dL_driftOf_3 : decode cL_driftOf 3 = .ok (.iload_n 1, 1) := by decide +kernel
theorem dL_driftOf_4 : decode cL_driftOf 4 = .ok (.invokevirtual 80, 3) := by decide +kernel
theorem dL_driftOf_7 : decode cL_driftOf 7 = .ok (.i2l, 1) := by decide +kernel
theorem dL_driftOf_8 : decode cL_driftOf 8 = .ok (.lastore, 1) := by decide +kernel
theorem dL_driftOf_9 : decode cL_driftOf 9 = .ok (.goto 6, 3) := by decide +kernel
theorem dL_driftOf_12 : decode cL_driftOf 12 = .ok (.astore_n 3, 1) := by decide +kernel
theorem dL_driftOf_13 : decode cL_driftOf 13 = .ok (.iconst 1, 1) := by decide +kernel
theorem dL_driftOf_14 : decode cL_driftOf 14 = .ok (.ireturn, 1) := by decide +kernel
theorem dL_driftOf_15 : decode cL_driftOf 15 = .ok (.iconst 0, 1) := by decide +kernel
theorem dL_driftOf_16 : decode cL_driftOf 16 = .ok (.ireturn, 1) := by decide +kernel
set_option maxRecDepth 20000 in
theorem ggL_wearOf_X1_wearOf : GoodIn wsL_wearOf wsX1_wearOf := goodIn_ca (goodIn_r _ [6, 7, 8, 9, 10, 5, 11, 12, 13, 14, 15, 16, 17, 18, 19, 20, 21, 22, 23, 24, 25, 26, 27, 28, 29, 30] (by decide +kernel) (by decide +kernel)) (goodIn_sub (fun _ h => List.mem_cons_of_mem _ (List.mem_append_right _ h)) (by decide +kernel))
set_option maxRecDepth 20000 in
theorem gL_wearOf_X1_wearOf : GoodIn wsL_wearOf (wsV RL 83 RX1 yX1_wearOf wsX1_wearOf) := goodIn_app (goodIn_of _ (by decide +kernel)) ggL_wearOf_X1_wearOf
theorem dL_wearOf_0 : decode cL_wearOf 0 = .ok (.aload_n 2, 1) := by decide +kernel
theorem dL_wearOf_1 : decode cL_wearOf 1 = .ok (.iconst 0, 1) := by decide +kernel
theorem dL_wearOf_2 : decode cL_wearOf 2 = .ok (.aload_n 0, 1) := by decide +kernel
theorem dL_wearOf_3 : decode cL_wearOf 3 = .ok (.iload_n 1, 1) := by decide +kernel
theorem dL_wearOf_4 : decode cL_wearOf 4 = .ok (.invokevirtual 83, 3) := by decide +kernel
theorem dL_wearOf_7 : decode cL_wearOf 7 = .ok (.i2l, 1) := by decide +kernel
theorem dL_wearOf_8 : decode cL_wearOf 8 = .ok (.lastore, 1) := by decide +kernel
theorem dL_wearOf_9 : decode cL_wearOf 9 = .ok (.goto 6, 3) := by decide +kernel
theorem dL_wearOf_12 : decode cL_wearOf 12 = .ok (.astore_n 3, 1) := by decide +kernel
theorem dL_wearOf_13 : decode cL_wearOf 13 = .ok (.iconst 1, 1) := by decide +kernel
theorem dL_wearOf_14 : decode cL_wearOf 14 = .ok (.ireturn, 1) := by decide +kernel
theorem dL_wearOf_15 : decode cL_wearOf 15 = .ok (.iconst 0, 1) := by decide +kernel
theorem dL_wearOf_16 : decode cL_wearOf 16 = .ok (.ireturn, 1) := by decide +kernel
set_option maxRecDepth 20000 in
theorem ggL_isHonest_X1_isHonest : GoodIn wsL_isHonest wsX1_isHonest := goodIn_ca (goodIn_r _ [6, 7, 8, 9, 10, 5, 11, 12, 13, 14, 15, 16, 17, 18, 19, 20, 21, 22, 23, 24, 25, 26, 27, 28, 29, 30, 31, 32, 33, 34, 35, 36, 37, 38, 39] (by decide +kernel) (by decide +kernel)) (goodIn_sub (fun _ h => List.mem_cons_of_mem _ (List.mem_append_right _ h)) (by decide +kernel))
set_option maxRecDepth 20000 in
theorem gL_isHonest_X1_isHonest : GoodIn wsL_isHonest (wsV RL 86 RX1 yX1_isHonest wsX1_isHonest) := goodIn_app (goodIn_of _ (by decide +kernel)) ggL_isHonest_X1_isHonest
theorem dL_isHonest_0 : decode cL_isHonest 0 = .ok (.aload_n 2, 1) := by decide +kernel
theorem dL_isHonest_1 : decode cL_isHonest 1 = .ok (.iconst 0, 1) := by decide +kernel
theorem dL_isHonest_2 : decode cL_isHonest 2 = .ok (.aload_n 0, 1) := by decide +kernel
theorem dL_isHonest_3 : decode cL_isHonest 3 = .ok (.iload_n 1, 1) := by decide +kernel
theorem dL_isHonest_4 : decode cL_isHonest 4 = .ok (.invokevirtual 86, 3) := by decide +kernel
theorem dL_isHonest_7 : decode cL_isHonest 7 = .ok (.ifCond .eq 7, 3) := by decide +kernel
theorem dL_isHonest_10 : decode cL_isHonest 10 = .ok (.lconst 1, 1) := by decide +kernel
theorem dL_isHonest_11 : decode cL_isHonest 11 = .ok (.goto 4, 3) := by decide +kernel
theorem dL_isHonest_14 : decode cL_isHonest 14 = .ok (.lconst 0, 1) := by decide +kernel
theorem dL_isHonest_15 : decode cL_isHonest 15 = .ok (.lastore, 1) := by decide +kernel
theorem dL_isHonest_16 : decode cL_isHonest 16 = .ok (.goto 6, 3) := by decide +kernel
theorem dL_isHonest_19 : decode cL_isHonest 19 = .ok (.astore_n 3, 1) := by decide +kernel
theorem dL_isHonest_20 : decode cL_isHonest 20 = .ok (.iconst 1, 1) := by decide +kernel
theorem dL_isHonest_21 : decode cL_isHonest 21 = .ok (.ireturn, 1) := by decide +kernel
theorem dL_isHonest_22 : decode cL_isHonest 22 = .ok (.iconst 0, 1) := by decide +kernel
theorem dL_isHonest_23 : decode cL_isHonest 23 = .ok (.ireturn, 1) := by decide +kernel
set_option maxRecDepth 20000 in
theorem ggL_getsAt_X1_getsAt : GoodIn wsL_getsAt wsX1_getsAt := goodIn_ca (goodIn_ca (goodIn_r _ [7, 8, 9, 10, 11, 6, 12, 13, 14, 15, 16, 17, 18, 19, 20, 21, 22, 23, 24, 25, 26, 27, 28, 29, 30, 31, 32, 33, 34, 35, 36, 37, 38, 39, 40, 41, 42, 43, 44, 45, 46, 47, 48, 49, 50] (by decide +kernel) (by decide +kernel)) (goodIn_sub (fun _ h => List.mem_cons_of_mem _ (List.mem_append_left _ (List.mem_append_right _ h))) (by decide +kernel))) (goodIn_sub (fun _ h => List.mem_cons_of_mem _ (List.mem_append_right _ h)) (by decide +kernel))
set_option maxRecDepth 20000 in
theorem gL_getsAt_X1_getsAt : GoodIn wsL_getsAt (wsV RL 90 RX1 yX1_getsAt wsX1_getsAt) := goodIn_app (goodIn_of _ (by decide +kernel)) ggL_getsAt_X1_getsAt
theorem dL_getsAt_0 : decode cL_getsAt 0 = .ok (.aload 4, 2) := by decide +kernel
theorem dL_getsAt_2 : decode cL_getsAt 2 = .ok (.iconst 0, 1) := by decide +kernel
theorem dL_getsAt_3 : decode cL_getsAt 3 = .ok (.aload_n 0, 1) := by decide +kernel
theorem dL_getsAt_4 : decode cL_getsAt 4 = .ok (.iload_n 1, 1) := by decide +kernel
theorem dL_getsAt_5 : decode cL_getsAt 5 = .ok (.iload_n 2, 1) := by decide +kernel
theorem dL_getsAt_6 : decode cL_getsAt 6 = .ok (.iload_n 3, 1) := by decide +kernel
theorem dL_getsAt_7 : decode cL_getsAt 7 = .ok (.invokevirtual 90, 3) := by decide +kernel
theorem dL_getsAt_10 : decode cL_getsAt 10 = .ok (.lastore, 1) := by decide +kernel
theorem dL_getsAt_11 : decode cL_getsAt 11 = .ok (.goto 11, 3) := by decide +kernel
theorem dL_getsAt_14 : decode cL_getsAt 14 = .ok (.astore 5, 2) := by decide +kernel
theorem dL_getsAt_16 : decode cL_getsAt 16 = .ok (.iconst 1, 1) := by decide +kernel
theorem dL_getsAt_17 : decode cL_getsAt 17 = .ok (.ireturn, 1) := by decide +kernel
theorem dL_getsAt_18 : decode cL_getsAt 18 = .ok (.astore 5, 2) := by decide +kernel
theorem dL_getsAt_20 : decode cL_getsAt 20 = .ok (.iconst 2, 1) := by decide +kernel
theorem dL_getsAt_21 : decode cL_getsAt 21 = .ok (.ireturn, 1) := by decide +kernel
theorem dL_getsAt_22 : decode cL_getsAt 22 = .ok (.iconst 0, 1) := by decide +kernel
theorem dL_getsAt_23 : decode cL_getsAt 23 = .ok (.ireturn, 1) := by decide +kernel
set_option maxRecDepth 20000 in
theorem ggL_lossAt_X1_lossAt : GoodIn wsL_lossAt wsX1_lossAt := goodIn_ca (goodIn_ca (goodIn_r _ [7, 8, 9, 10, 11, 6, 12, 13, 14, 15, 16, 17, 18, 19, 20, 21, 22, 23, 24, 25, 26, 27, 28, 29, 30, 31, 32, 33, 34, 35, 36, 37, 38, 39, 40, 41, 42, 43, 44, 45, 46, 47, 48, 49, 50] (by decide +kernel) (by decide +kernel)) (goodIn_sub (fun _ h => List.mem_cons_of_mem _ (List.mem_append_left _ (List.mem_append_right _ h))) (by decide +kernel))) (goodIn_sub (fun _ h => List.mem_cons_of_mem _ (List.mem_append_right _ h)) (by decide +kernel))
set_option maxRecDepth 20000 in
theorem gL_lossAt_X1_lossAt : GoodIn wsL_lossAt (wsV RL 93 RX1 yX1_lossAt wsX1_lossAt) := goodIn_app (goodIn_of _ (by decide +kernel)) ggL_lossAt_X1_lossAt
theorem dL_lossAt_0 : decode cL_lossAt 0 = .ok (.aload 4, 2) := by decide +kernel
theorem dL_lossAt_2 : decode cL_lossAt 2 = .ok (.iconst 0, 1) := by decide +kernel
theorem dL_lossAt_3 : decode cL_lossAt 3 = .ok (.aload_n 0, 1) := by decide +kernel
theorem dL_lossAt_4 : decode cL_lossAt 4 = .ok (.iload_n 1, 1) := by decide +kernel
theorem dL_lossAt_5 : decode cL_lossAt 5 = .ok (.iload_n 2, 1) := by decide +kernel
theorem dL_lossAt_6 : decode cL_lossAt 6 = .ok (.iload_n 3, 1) := by decide +kernel
theorem dL_lossAt_7 : decode cL_lossAt 7 = .ok (.invokevirtual 93, 3) := by decide +kernel
theorem dL_lossAt_10 : decode cL_lossAt 10 = .ok (.lastore, 1) := by decide +kernel
theorem dL_lossAt_11 : decode cL_lossAt 11 = .ok (.goto 11, 3) := by decide +kernel
theorem dL_lossAt_14 : decode cL_lossAt 14 = .ok (.astore 5, 2) := by decide +kernel
theorem dL_lossAt_16 : decode cL_lossAt 16 = .ok (.iconst 1, 1) := by decide +kernel
theorem dL_lossAt_17 : decode cL_lossAt 17 = .ok (.ireturn, 1) := by decide +kernel
theorem dL_lossAt_18 : decode cL_lossAt 18 = .ok (.astore 5, 2) := by decide +kernel
theorem dL_lossAt_20 : decode cL_lossAt 20 = .ok (.iconst 2, 1) := by decide +kernel
theorem dL_lossAt_21 : decode cL_lossAt 21 = .ok (.ireturn, 1) := by decide +kernel
theorem dL_lossAt_22 : decode cL_lossAt 22 = .ok (.iconst 0, 1) := by decide +kernel
theorem dL_lossAt_23 : decode cL_lossAt 23 = .ok (.ireturn, 1) := by decide +kernel
set_option maxRecDepth 20000 in
theorem ggL_driftIn_X1_driftIn : GoodIn wsL_driftIn wsX1_driftIn := goodIn_ca (goodIn_ca (goodIn_r _ [7, 8, 9, 10, 11, 12, 6, 13, 14, 15, 16, 17, 18, 19, 20, 21, 22, 23, 24, 25, 26, 27, 28, 29, 30, 31, 32, 33, 34, 35, 36, 37, 38, 39, 40, 41, 42, 43, 44, 45, 46, 47, 48, 49, 50, 51, 52, 53, 54, 55, 56, 57, 58, 59, 60, 61, 62, 63, 64, 65, 66, 67, 68, 69, 70, 71, 72, 73, 74, 75, 76, 77, 78, 79, 80, 81, 82] (by decide +kernel) (by decide +kernel)) (goodIn_sub (fun _ h => List.mem_cons_of_mem _ (List.mem_append_left _ (List.mem_append_right _ h))) (by decide +kernel))) (goodIn_sub (fun _ h => List.mem_cons_of_mem _ (List.mem_append_right _ h)) (by decide +kernel))
set_option maxRecDepth 20000 in
theorem gL_driftIn_X1_driftIn : GoodIn wsL_driftIn (wsV RL 96 RX1 yX1_driftIn wsX1_driftIn) := goodIn_app (goodIn_of _ (by decide +kernel)) ggL_driftIn_X1_driftIn
theorem dL_driftIn_0 : decode cL_driftIn 0 = .ok (.aload_n 3, 1) := by decide +kernel
theorem dL_driftIn_1 : decode cL_driftIn 1 = .ok (.iconst 0, 1) := by decide +kernel
theorem dL_driftIn_2 : decode cL_driftIn 2 = .ok (.aload_n 0, 1) := by decide +kernel
theorem dL_driftIn_3 : decode cL_driftIn 3 = .ok (.iload_n 1, 1) := by decide +kernel
theorem dL_driftIn_4 : decode cL_driftIn 4 = .ok (.iload_n 2, 1) := by decide +kernel
theorem dL_driftIn_5 : decode cL_driftIn 5 = .ok (.invokevirtual 96, 3) := by decide +kernel
theorem dL_driftIn_8 : decode cL_driftIn 8 = .ok (.i2l, 1) := by decide +kernel
theorem dL_driftIn_9 : decode cL_driftIn 9 = .ok (.lastore, 1) := by decide +kernel
theorem dL_driftIn_10 : decode cL_driftIn 10 = .ok (.goto 11, 3) := by decide +kernel
theorem dL_driftIn_13 : decode cL_driftIn 13 = .ok (.astore 4, 2) := by decide +kernel
theorem dL_driftIn_15 : decode cL_driftIn 15 = .ok (.iconst 1, 1) := by decide +kernel
theorem dL_driftIn_16 : decode cL_driftIn 16 = .ok (.ireturn, 1) := by decide +kernel
theorem dL_driftIn_17 : decode cL_driftIn 17 = .ok (.astore 4, 2) := by decide +kernel
theorem dL_driftIn_19 : decode cL_driftIn 19 = .ok (.iconst 2, 1) := by decide +kernel
theorem dL_driftIn_20 : decode cL_driftIn 20 = .ok (.ireturn, 1) := by decide +kernel
theorem dL_driftIn_21 : decode cL_driftIn 21 = .ok (.iconst 0, 1) := by decide +kernel
theorem dL_driftIn_22 : decode cL_driftIn 22 = .ok (.ireturn, 1) := by decide +kernel
set_option maxRecDepth 20000 in
theorem ggL_finesIn_X1_finesIn : GoodIn wsL_finesIn wsX1_finesIn := goodIn_ca (goodIn_r _ [6, 7, 8, 9, 10, 5, 11, 12, 13, 14, 15, 16, 17, 18, 19, 20, 21, 22, 23, 24, 25, 26, 27, 28, 29, 30, 31, 32, 33, 34, 35, 36, 37, 38, 39, 40, 41, 42, 43, 44, 45, 46, 47, 48, 49, 50, 51, 52, 53, 54, 55, 56, 57, 58, 59, 60, 61, 62, 63, 64, 65, 66, 67, 68, 69, 70, 71, 72, 73, 74, 75] (by decide +kernel) (by decide +kernel)) (goodIn_sub (fun _ h => List.mem_cons_of_mem _ (List.mem_append_right _ h)) (by decide +kernel))
set_option maxRecDepth 20000 in
theorem gL_finesIn_X1_finesIn : GoodIn wsL_finesIn (wsV RL 99 RX1 yX1_finesIn wsX1_finesIn) := goodIn_app (goodIn_of _ (by decide +kernel)) ggL_finesIn_X1_finesIn
theorem dL_finesIn_0 : decode cL_finesIn 0 = .ok (.aload_n 2, 1) := by decide +kernel
theorem dL_finesIn_1 : decode cL_finesIn 1 = .ok (.iconst 0, 1) := by decide +kernel
theorem dL_finesIn_2 : decode cL_finesIn 2 = .ok (.aload_n 0, 1) := by decide +kernel
theorem dL_finesIn_3 : decode cL_finesIn 3 = .ok (.iload_n 1, 1) := by decide +kernel
theorem dL_finesIn_4 : decode cL_finesIn 4 = .ok (.invokevirtual 99, 3) := by decide +kernel
theorem dL_finesIn_7 : decode cL_finesIn 7 = .ok (.i2l, 1) := by decide +kernel
theorem dL_finesIn_8 : decode cL_finesIn 8 = .ok (.lastore, 1) := by decide +kernel
theorem dL_finesIn_9 : decode cL_finesIn 9 = .ok (.goto 6, 3) := by decide +kernel
theorem dL_finesIn_12 : decode cL_finesIn 12 = .ok (.astore_n 3, 1) := by decide +kernel
theorem dL_finesIn_13 : decode cL_finesIn 13 = .ok (.iconst 1, 1) := by decide +kernel
theorem dL_finesIn_14 : decode cL_finesIn 14 = .ok (.ireturn, 1) := by decide +kernel
theorem dL_finesIn_15 : decode cL_finesIn 15 = .ok (.iconst 0, 1) := by decide +kernel
theorem dL_finesIn_16 : decode cL_finesIn 16 = .ok (.ireturn, 1) := by decide +kernel
set_option maxRecDepth 20000 in
theorem ggL_daysUntilFined_X1_daysUntilFined : GoodIn wsL_daysUntilFined wsX1_daysUntilFined := goodIn_ca (goodIn_r _ [6, 7, 8, 9, 10, 11, 5, 12, 13, 14, 15, 16, 17, 18, 19, 20, 21, 22, 23, 24, 25, 26, 27, 28, 29, 30, 31, 32, 33, 34, 35, 36, 37, 38, 39, 40, 41, 42, 43, 44, 45, 46, 47, 48, 49, 50, 51, 52, 53, 54, 55, 56, 57, 58, 59, 60, 61, 62, 63, 64, 65, 66, 67, 68, 69, 70, 71, 72] (by decide +kernel) (by decide +kernel)) (goodIn_sub (fun _ h => List.mem_cons_of_mem _ (List.mem_append_right _ h)) (by decide +kernel))
set_option maxRecDepth 20000 in
theorem gL_daysUntilFined_X1_daysUntilFined : GoodIn wsL_daysUntilFined (wsV RL 102 RX1 yX1_daysUntilFined wsX1_daysUntilFined) := goodIn_app (goodIn_of _ (by decide +kernel)) ggL_daysUntilFined_X1_daysUntilFined
theorem dL_daysUntilFined_0 : decode cL_daysUntilFined 0 = .ok (.aload_n 2, 1) := by decide +kernel
theorem dL_daysUntilFined_1 : decode cL_daysUntilFined 1 = .ok (.iconst 0, 1) := by decide +kernel
theorem dL_daysUntilFined_2 : decode cL_daysUntilFined 2 = .ok (.aload_n 0, 1) := by decide +kernel
theorem dL_daysUntilFined_3 : decode cL_daysUntilFined 3 = .ok (.iload_n 1, 1) := by decide +kernel
theorem dL_daysUntilFined_4 : decode cL_daysUntilFined 4 = .ok (.invokevirtual 102, 3) := by decide +kernel
theorem dL_daysUntilFined_7 : decode cL_daysUntilFined 7 = .ok (.i2l, 1) := by decide +kernel
theorem dL_daysUntilFined_8 : decode cL_daysUntilFined 8 = .ok (.lastore, 1) := by decide +kernel
theorem dL_daysUntilFined_9 : decode cL_daysUntilFined 9 = .ok (.goto 6, 3) := by decide +kernel
theorem dL_daysUntilFined_12 : decode cL_daysUntilFined 12 = .ok (.astore_n 3, 1) := by decide +kernel
theorem dL_daysUntilFined_13 : decode cL_daysUntilFined 13 = .ok (.iconst 1, 1) := by decide +kernel
theorem dL_daysUntilFined_14 : decode cL_daysUntilFined 14 = .ok (.ireturn, 1) := by decide +kernel
theorem dL_daysUntilFined_15 : decode cL_daysUntilFined 15 = .ok (.iconst 0, 1) := by decide +kernel
theorem dL_daysUntilFined_16 : decode cL_daysUntilFined 16 = .ok (.ireturn, 1) := by decide +kernel
set_option maxRecDepth 20000 in
theorem ggL_bestDayAt_X1_bestDayAt : GoodIn wsL_bestDayAt wsX1_bestDayAt := goodIn_ca (goodIn_r _ [6, 7, 8, 9, 10, 11, 5, 12, 13, 14, 15, 16, 17, 18, 19, 20, 21, 22, 23, 24, 25, 26, 27, 28, 29, 30, 31, 32, 33, 34, 35, 36, 37, 38, 39, 40, 41, 42, 43, 44, 45, 46, 47, 48, 49, 50, 51, 52, 53, 54, 55, 56, 57, 58, 59, 60, 61, 62, 63, 64, 65, 66, 67, 68, 69, 70, 71, 72] (by decide +kernel) (by decide +kernel)) (goodIn_sub (fun _ h => List.mem_cons_of_mem _ (List.mem_append_right _ h)) (by decide +kernel))
set_option maxRecDepth 20000 in
theorem gL_bestDayAt_X1_bestDayAt : GoodIn wsL_bestDayAt (wsV RL 105 RX1 yX1_bestDayAt wsX1_bestDayAt) := goodIn_app (goodIn_of _ (by decide +kernel)) ggL_bestDayAt_X1_bestDayAt
theorem dL_bestDayAt_0 : decode cL_bestDayAt 0 = .ok (.aload_n 2, 1) := by decide +kernel
theorem dL_bestDayAt_1 : decode cL_bestDayAt 1 = .ok (.iconst 0, 1) := by decide +kernel
theorem dL_bestDayAt_2 : decode cL_bestDayAt 2 = .ok (.aload_n 0, 1) := by decide +kernel
theorem dL_bestDayAt_3 : decode cL_bestDayAt 3 = .ok (.iload_n 1, 1) := by decide +kernel
theorem dL_bestDayAt_4 : decode cL_bestDayAt 4 = .ok (.invokevirtual 105, 3) := by decide +kernel
theorem dL_bestDayAt_7 : decode cL_bestDayAt 7 = .ok (.i2l, 1) := by decide +kernel
theorem dL_bestDayAt_8 : decode cL_bestDayAt 8 = .ok (.lastore, 1) := by decide +kernel
theorem dL_bestDayAt_9 : decode cL_bestDayAt 9 = .ok (.goto 6, 3) := by decide +kernel
theorem dL_bestDayAt_12 : decode cL_bestDayAt 12 = .ok (.astore_n 3, 1) := by decide +kernel
theorem dL_bestDayAt_13 : decode cL_bestDayAt 13 = .ok (.iconst 1, 1) := by decide +kernel
theorem dL_bestDayAt_14 : decode cL_bestDayAt 14 = .ok (.ireturn, 1) := by decide +kernel
theorem dL_bestDayAt_15 : decode cL_bestDayAt 15 = .ok (.iconst 0, 1) := by decide +kernel
theorem dL_bestDayAt_16 : decode cL_bestDayAt 16 = .ok (.ireturn, 1) := by decide +kernel
set_option maxRecDepth 20000 in
theorem ggL_law_X1_init : GoodIn wsL_law wsX1_init := goodIn_r _ [9, 10, 11, 12, 13, 14, 15, 6, 16, 17, 18, 19, 20, 21, 22, 23, 24, 25, 26, 27, 28, 29, 30, 697, 698, 699, 700, 701, 702, 703, 704, 705, 720, 721, 722, 723, 724] (by decide +kernel) (by decide +kernel)
set_option maxRecDepth 20000 in
theorem gL_law_X1_init : GoodIn wsL_law (wsX1_init) := ggL_law_X1_init
set_option maxRecDepth 20000 in
theorem ggL_law_X2_init : GoodIn wsL_law wsX2_init := goodIn_r _ [33, 34, 11, 12, 35, 13, 36, 37, 38, 6, 39, 40, 41, 42, 43, 44, 706, 707, 708, 709, 710, 711, 712, 713, 714, 715, 716, 717, 718, 719] (by decide +kernel) (by decide +kernel)
set_option maxRecDepth 20000 in
theorem gL_law_X2_init : GoodIn wsL_law (wsX2_init) := ggL_law_X2_init
set_option maxRecDepth 20000 in
theorem ggL_law_L_addMeasure : GoodIn wsL_law wsL_addMeasure := goodIn_ca (goodIn_ca (goodIn_ca (goodIn_r _ [48, 49, 50, 51, 52, 53, 54, 2, 55, 56, 57, 58, 59, 23, 16, 14, 15, 60, 61, 62, 63, 64, 65, 66, 67, 68, 69, 70, 71, 72, 73, 74, 75, 76, 17, 77, 78, 79, 80, 697, 698, 699, 700, 701, 702, 703, 704, 705] (by decide +kernel) (by decide +kernel)) (goodIn_sub (fun _ h => List.mem_append_left _ (List.mem_append_left _ (List.mem_append_right _ h))) (by decide +kernel))) (goodIn_sub (fun _ h => List.mem_append_left _ (List.mem_append_right _ h)) (by decide +kernel))) (goodIn_sub (fun _ h => List.mem_append_right _ h) (by decide +kernel))
set_option maxRecDepth 20000 in
theorem gL_law_L_addMeasure : GoodIn wsL_law (va_wsS RL 112 yL_addMeasure wsL_addMeasure) := goodIn_app (goodIn_of _ (by decide +kernel)) ggL_law_L_addMeasure
set_option maxRecDepth 20000 in
theorem ggL_law_X2_addMeasure : GoodIn wsL_law wsX2_addMeasure := goodIn_r _ [84, 85, 35, 36, 37, 38, 86, 87, 88, 5, 89, 90, 91, 92, 93, 94, 95, 96, 97, 98, 99, 100, 39, 40, 706, 707, 708, 709, 710, 711, 712, 713, 714, 715, 716, 717, 718, 719] (by decide +kernel) (by decide +kernel)
set_option maxRecDepth 20000 in
theorem gL_law_X2_addMeasure : GoodIn wsL_law (wsV RL 117 RX2 yX2_addMeasure wsX2_addMeasure) := goodIn_app (goodIn_of _ (by decide +kernel)) ggL_law_X2_addMeasure
set_option maxRecDepth 20000 in
theorem ggL_law_X2_thrown : GoodIn wsL_law wsX2_thrown := goodIn_r _ [104, 85, 706, 707, 708, 709, 710, 711, 712, 713, 714, 715, 716, 717, 718, 719] (by decide +kernel) (by decide +kernel)
set_option maxRecDepth 20000 in
theorem gL_law_X2_thrown : GoodIn wsL_law (wsV RL 118 RX2 yX2_thrown wsX2_thrown) := goodIn_app (goodIn_of _ (by decide +kernel)) ggL_law_X2_thrown
set_option maxRecDepth 20000 in
theorem ggL_law_L_setStandard : GoodIn wsL_law wsL_setStandard := goodIn_ca (goodIn_r _ [107, 49, 108, 109, 110, 2, 111, 24, 60, 61, 62, 63, 64, 65, 23, 66, 67, 68, 697, 698, 699, 700, 701, 702, 703, 704, 705] (by decide +kernel) (by decide +kernel)) (goodIn_sub (fun _ h => List.mem_append_right _ h) (by decide +kernel))
set_option maxRecDepth 20000 in
theorem gL_law_L_setStandard : GoodIn wsL_law (va_wsS RL 122 yL_setStandard wsL_setStandard) := goodIn_app (goodIn_of _ (by decide +kernel)) ggL_law_L_setStandard
set_option maxRecDepth 20000 in
theorem ggL_law_X2_setStandard : GoodIn wsL_law wsX2_setStandard := goodIn_r _ [115, 85, 116, 86, 87, 88, 5, 89, 35, 90, 91, 92, 93, 94, 95, 96, 706, 707, 708, 709, 710, 711, 712, 713, 714, 715, 716, 717, 718, 719] (by decide +kernel) (by decide +kernel)
set_option maxRecDepth 20000 in
theorem gL_law_X2_setStandard : GoodIn wsL_law (wsV RL 125 RX2 yX2_setStandard wsX2_setStandard) := goodIn_app (goodIn_of _ (by decide +kernel)) ggL_law_X2_setStandard
set_option maxRecDepth 20000 in
theorem ggL_law_L_addStall : GoodIn wsL_law wsL_addStall := goodIn_ca (goodIn_ca (goodIn_r _ [119, 50, 51, 120, 121, 122, 2, 123, 58, 59, 21, 124, 125, 126, 56, 57, 66, 67, 68, 697, 698, 699, 700, 701, 702, 703, 704, 705, 720, 721, 722, 723, 724] (by decide +kernel) (by decide +kernel)) (goodIn_sub (fun _ h => List.mem_append_left _ (List.mem_append_right _ h)) (by decide +kernel))) (goodIn_sub (fun _ h => List.mem_append_left _ (List.mem_append_left _ (List.mem_append_right _ h))) (by decide +kernel))
set_option maxRecDepth 20000 in
theorem gL_law_L_addStall : GoodIn wsL_law (va_wsS RL 126 yL_addStall wsL_addStall) := goodIn_app (goodIn_of _ (by decide +kernel)) ggL_law_L_addStall
set_option maxRecDepth 20000 in
theorem ggL_law_X2_addStall : GoodIn wsL_law wsX2_addStall := goodIn_r _ [130, 85, 131, 41, 90, 91, 5, 92, 93, 94, 95, 96, 706, 707, 708, 709, 710, 711, 712, 713, 714, 715, 716, 717, 718, 719] (by decide +kernel) (by decide +kernel)
set_option maxRecDepth 20000 in
theorem gL_law_X2_addStall : GoodIn wsL_law (wsV RL 128 RX2 yX2_addStall wsX2_addStall) := goodIn_app (goodIn_of _ (by decide +kernel)) ggL_law_X2_addStall
set_option maxRecDepth 20000 in
theorem ggL_law_L_setWear : GoodIn wsL_law wsL_setWear := goodIn_ca (goodIn_ca (goodIn_r _ [134, 49, 50, 135, 136, 137, 2, 138, 21, 139, 140, 141, 142, 64, 65, 66, 67, 68, 124, 125, 126, 56, 57, 697, 698, 699, 700, 701, 702, 703, 704, 705, 720, 721, 722, 723, 724] (by decide +kernel) (by decide +kernel)) (goodIn_sub (fun _ h => List.mem_append_right _ h) (by decide +kernel))) (goodIn_sub (fun _ h => List.mem_append_left _ (List.mem_append_left _ (List.mem_append_right _ h))) (by decide +kernel))
set_option maxRecDepth 20000 in
theorem gL_law_L_setWear : GoodIn wsL_law (va_wsS RL 129 yL_setWear wsL_setWear) := goodIn_app (goodIn_of _ (by decide +kernel)) ggL_law_L_setWear
set_option maxRecDepth 20000 in
theorem ggL_law_X2_setWear : GoodIn wsL_law wsX2_setWear := goodIn_r _ [146, 85, 41, 147, 148, 149, 5, 150, 131, 90, 91, 92, 93, 94, 95, 96, 706, 707, 708, 709, 710, 711, 712, 713, 714, 715, 716, 717, 718, 719] (by decide +kernel) (by decide +kernel)
set_option maxRecDepth 20000 in
theorem gL_law_X2_setWear : GoodIn wsL_law (wsV RL 132 RX2 yX2_setWear wsX2_setWear) := goodIn_app (goodIn_of _ (by decide +kernel)) ggL_law_X2_setWear
set_option maxRecDepth 20000 in
theorem ggL_law_L_seal : GoodIn wsL_law wsL_seal := goodIn_ca (goodIn_r _ [153, 49, 154, 155, 156, 2, 157, 21, 139, 140, 141, 142, 64, 65, 66, 67, 68, 697, 698, 699, 700, 701, 702, 703, 704, 705, 720, 721, 722, 723, 724] (by decide +kernel) (by decide +kernel)) (goodIn_sub (fun _ h => List.mem_append_right _ h) (by decide +kernel))
set_option maxRecDepth 20000 in
theorem gL_law_L_seal : GoodIn wsL_law (va_wsS RL 133 yL_seal wsL_seal) := goodIn_app (goodIn_of _ (by decide +kernel)) ggL_law_L_seal
set_option maxRecDepth 20000 in
theorem ggL_law_X2_seal : GoodIn wsL_law wsX2_seal := goodIn_r _ [161, 85, 43, 147, 148, 149, 5, 150, 131, 90, 91, 92, 93, 94, 95, 96, 706, 707, 708, 709, 710, 711, 712, 713, 714, 715, 716, 717, 718, 719] (by decide +kernel) (by decide +kernel)
set_option maxRecDepth 20000 in
theorem gL_law_X2_seal : GoodIn wsL_law (wsV RL 135 RX2 yX2_seal wsX2_seal) := goodIn_app (goodIn_of _ (by decide +kernel)) ggL_law_X2_seal
set_option maxRecDepth 20000 in
theorem ggL_law_L_setTolerance : GoodIn wsL_law wsL_setTolerance := goodIn_ca (goodIn_r _ [164, 50, 165, 166, 167, 2, 168, 56, 57, 21, 66, 67, 68, 697, 698, 699, 700, 701, 702, 703, 704, 705, 720, 721, 722, 723, 724] (by decide +kernel) (by decide +kernel)) (goodIn_sub (fun _ h => List.mem_append_left _ (List.mem_append_left _ (List.mem_append_right _ h))) (by decide +kernel))
set_option maxRecDepth 20000 in
theorem gL_law_L_setTolerance : GoodIn wsL_law (va_wsS RL 136 yL_setTolerance wsL_setTolerance) := goodIn_app (goodIn_of _ (by decide +kernel)) ggL_law_L_setTolerance
set_option maxRecDepth 20000 in
theorem ggL_law_X2_setTolerance : GoodIn wsL_law wsX2_setTolerance := goodIn_r _ [172, 85, 42, 90, 91, 5, 92, 93, 94, 95, 96, 706, 707, 708, 709, 710, 711, 712, 713, 714, 715, 716, 717, 718, 719] (by decide +kernel) (by decide +kernel)
set_option maxRecDepth 20000 in
theorem gL_law_X2_setTolerance : GoodIn wsL_law (wsV RL 138 RX2 yX2_setTolerance wsX2_setTolerance) := goodIn_app (goodIn_of _ (by decide +kernel)) ggL_law_X2_setTolerance
set_option maxRecDepth 20000 in
theorem ggL_law_L_passDays : GoodIn wsL_law wsL_passDays := goodIn_ca (goodIn_r _ [175, 50, 176, 177, 178, 2, 179, 21, 180, 181, 182, 183, 56, 57, 66, 67, 68, 184, 20, 185, 186, 187, 188, 189, 190, 191, 29, 28, 192, 193, 194, 195, 196, 197, 198, 199, 200, 201, 202, 203, 204, 205, 206, 207, 208, 209, 210, 211, 212, 213, 214, 215, 216, 217, 218, 219, 220, 221, 30, 697, 698, 699, 700, 701, 702, 703, 704, 705, 720, 721, 722, 723, 724] (by decide +kernel) (by decide +kernel)) (goodIn_sub (fun _ h => List.mem_append_left _ (List.mem_append_left _ (List.mem_append_right _ h))) (by decide +kernel))
set_option maxRecDepth 20000 in
theorem gL_law_L_passDays : GoodIn wsL_law (va_wsS RL 139 yL_passDays wsL_passDays) := goodIn_app (goodIn_of _ (by decide +kernel)) ggL_law_L_passDays
set_option maxRecDepth 20000 in
theorem ggL_law_X2_passDays : GoodIn wsL_law wsX2_passDays := goodIn_r _ [225, 85, 43, 90, 91, 5, 92, 93, 94, 95, 96, 226, 227, 228, 229, 230, 231, 232, 233, 131, 41, 234, 197, 198, 199, 235, 201, 202, 236, 216, 217, 237, 238, 239, 240, 42, 706, 707, 708, 709, 710, 711, 712, 713, 714, 715, 716, 717, 718, 719] (by decide +kernel) (by decide +kernel)
set_option maxRecDepth 20000 in
theorem gL_law_X2_passDays : GoodIn wsL_law (wsV RL 141 RX2 yX2_passDays wsX2_passDays) := goodIn_app (goodIn_of _ (by decide +kernel)) ggL_law_X2_passDays
set_option maxRecDepth 20000 in
theorem ggL_law_X1_measures : GoodIn wsL_law wsX1_measures := goodIn_r _ [244, 23, 697, 698, 699, 700, 701, 702, 703, 704, 705] (by decide +kernel) (by decide +kernel)
set_option maxRecDepth 20000 in
theorem gL_law_X1_measures : GoodIn wsL_law (wsV RL 142 RX1 yX1_measures wsX1_measures) := goodIn_app (goodIn_of _ (by decide +kernel)) ggL_law_X1_measures
set_option maxRecDepth 20000 in
theorem ggL_law_X2_measures : GoodIn wsL_law wsX2_measures := goodIn_r _ [248, 35, 249, 250, 251, 5, 252, 85, 706, 707, 708, 709, 710, 711, 712, 713, 714, 715, 716, 717, 718, 719] (by decide +kernel) (by decide +kernel)
set_option maxRecDepth 20000 in
theorem gL_law_X2_measures : GoodIn wsL_law (wsV RL 145 RX2 yX2_measures wsX2_measures) := goodIn_app (goodIn_of _ (by decide +kernel)) ggL_law_X2_measures
set_option maxRecDepth 20000 in
theorem ggL_law_X1_stalls : GoodIn wsL_law wsX1_stalls := goodIn_r _ [256, 21, 697, 698, 699, 700, 701, 702, 703, 704, 705, 720, 721, 722, 723, 724] (by decide +kernel) (by decide +kernel)
set_option maxRecDepth 20000 in
theorem gL_law_X1_stalls : GoodIn wsL_law (wsV RL 146 RX1 yX1_stalls wsX1_stalls) := goodIn_app (goodIn_of _ (by decide +kernel)) ggL_law_X1_stalls
set_option maxRecDepth 20000 in
theorem ggL_law_X2_stalls : GoodIn wsL_law wsX2_stalls := goodIn_r _ [260, 131, 249, 250, 251, 5, 252, 85, 706, 707, 708, 709, 710, 711, 712, 713, 714, 715, 716, 717, 718, 719] (by decide +kernel) (by decide +kernel)
set_option maxRecDepth 20000 in
theorem gL_law_X2_stalls : GoodIn wsL_law (wsV RL 149 RX2 yX2_stalls wsX2_stalls) := goodIn_app (goodIn_of _ (by decide +kernel)) ggL_law_X2_stalls
set_option maxRecDepth 20000 in
theorem ggL_law_X1_days : GoodIn wsL_law wsX1_days := goodIn_r _ [264, 21, 697, 698, 699, 700, 701, 702, 703, 704, 705, 720, 721, 722, 723, 724] (by decide +kernel) (by decide +kernel)
set_option maxRecDepth 20000 in
theorem gL_law_X1_days : GoodIn wsL_law (wsV RL 150 RX1 yX1_days wsX1_days) := goodIn_app (goodIn_of _ (by decide +kernel)) ggL_law_X1_days
set_option maxRecDepth 20000 in
theorem ggL_law_X2_days : GoodIn wsL_law wsX2_days := goodIn_r _ [268, 43, 249, 250, 251, 5, 252, 85, 706, 707, 708, 709, 710, 711, 712, 713, 714, 715, 716, 717, 718, 719] (by decide +kernel) (by decide +kernel)
set_option maxRecDepth 20000 in
theorem gL_law_X2_days : GoodIn wsL_law (wsV RL 153 RX2 yX2_days wsX2_days) := goodIn_app (goodIn_of _ (by decide +kernel)) ggL_law_X2_days
set_option maxRecDepth 20000 in
theorem ggL_law_X1_standard : GoodIn wsL_law wsX1_standard := goodIn_r _ [272, 24, 697, 698, 699, 700, 701, 702, 703, 704, 705] (by decide +kernel) (by decide +kernel)
set_option maxRecDepth 20000 in
theorem gL_law_X1_standard : GoodIn wsL_law (wsV RL 154 RX1 yX1_standard wsX1_standard) := goodIn_app (goodIn_of _ (by decide +kernel)) ggL_law_X1_standard
set_option maxRecDepth 20000 in
theorem ggL_law_X2_standard : GoodIn wsL_law wsX2_standard := goodIn_r _ [276, 116, 249, 250, 251, 5, 252, 85, 706, 707, 708, 709, 710, 711, 712, 713, 714, 715, 716, 717, 718, 719] (by decide +kernel) (by decide +kernel)
set_option maxRecDepth 20000 in
theorem gL_law_X2_standard : GoodIn wsL_law (wsV RL 157 RX2 yX2_standard wsX2_standard) := goodIn_app (goodIn_of _ (by decide +kernel)) ggL_law_X2_standard
set_option maxRecDepth 20000 in
theorem ggL_law_X1_tolerance : GoodIn wsL_law wsX1_tolerance := goodIn_r _ [280, 21, 697, 698, 699, 700, 701, 702, 703, 704, 705, 720, 721, 722, 723, 724] (by decide +kernel) (by decide +kernel)
set_option maxRecDepth 20000 in
theorem gL_law_X1_tolerance : GoodIn wsL_law (wsV RL 158 RX1 yX1_tolerance wsX1_tolerance) := goodIn_app (goodIn_of _ (by decide +kernel)) ggL_law_X1_tolerance
set_option maxRecDepth 20000 in
theorem ggL_law_X2_tolerance : GoodIn wsL_law wsX2_tolerance := goodIn_r _ [284, 42, 249, 250, 251, 5, 252, 85, 706, 707, 708, 709, 710, 711, 712, 713, 714, 715, 716, 717, 718, 719] (by decide +kernel) (by decide +kernel)
set_option maxRecDepth 20000 in
theorem gL_law_X2_tolerance : GoodIn wsL_law (wsV RL 161 RX2 yX2_tolerance wsX2_tolerance) := goodIn_app (goodIn_of _ (by decide +kernel)) ggL_law_X2_tolerance
set_option maxRecDepth 20000 in
theorem ggL_law_X1_fines : GoodIn wsL_law wsX1_fines := goodIn_r _ [288, 180, 697, 698, 699, 700, 701, 702, 703, 704, 705] (by decide +kernel) (by decide +kernel)
set_option maxRecDepth 20000 in
theorem gL_law_X1_fines : GoodIn wsL_law (wsV RL 162 RX1 yX1_fines wsX1_fines) := goodIn_app (goodIn_of _ (by decide +kernel)) ggL_law_X1_fines
set_option maxRecDepth 20000 in
theorem ggL_law_X2_fines : GoodIn wsL_law wsX2_fines := goodIn_r _ [292, 43, 249, 250, 251, 5, 252, 85, 706, 707, 708, 709, 710, 711, 712, 713, 714, 715, 716, 717, 718, 719] (by decide +kernel) (by decide +kernel)
set_option maxRecDepth 20000 in
theorem gL_law_X2_fines : GoodIn wsL_law (wsV RL 165 RX2 yX2_fines wsX2_fines) := goodIn_app (goodIn_of _ (by decide +kernel)) ggL_law_X2_fines
set_option maxRecDepth 20000 in
theorem ggL_law_L_baseOf : GoodIn wsL_law wsL_baseOf := goodIn_ca (goodIn_r _ [295, 49, 296, 297, 298, 2, 299, 14, 60, 61, 62, 63, 64, 65, 23, 66, 67, 68, 697, 698, 699, 700, 701, 702, 703, 704, 705] (by decide +kernel) (by decide +kernel)) (goodIn_sub (fun _ h => List.mem_append_right _ h) (by decide +kernel))
set_option maxRecDepth 20000 in
theorem gL_law_L_baseOf : GoodIn wsL_law (va_wsS RL 166 yL_baseOf wsL_baseOf) := goodIn_app (goodIn_of _ (by decide +kernel)) ggL_law_L_baseOf
set_option maxRecDepth 20000 in
theorem ggL_law_X2_baseOf : GoodIn wsL_law wsX2_baseOf := goodIn_r _ [303, 85, 36, 86, 87, 88, 5, 89, 35, 90, 91, 92, 93, 94, 95, 96, 706, 707, 708, 709, 710, 711, 712, 713, 714, 715, 716, 717, 718, 719] (by decide +kernel) (by decide +kernel)
set_option maxRecDepth 20000 in
theorem gL_law_X2_baseOf : GoodIn wsL_law (wsV RL 168 RX2 yX2_baseOf wsX2_baseOf) := goodIn_app (goodIn_of _ (by decide +kernel)) ggL_law_X2_baseOf
set_option maxRecDepth 20000 in
theorem ggL_law_L_stepsToEll : GoodIn wsL_law wsL_stepsToEll := goodIn_ca (goodIn_r _ [306, 49, 307, 308, 309, 2, 310, 15, 60, 61, 62, 63, 64, 65, 23, 66, 67, 68, 697, 698, 699, 700, 701, 702, 703, 704, 705] (by decide +kernel) (by decide +kernel)) (goodIn_sub (fun _ h => List.mem_append_right _ h) (by decide +kernel))
set_option maxRecDepth 20000 in
theorem gL_law_L_stepsToEll : GoodIn wsL_law (va_wsS RL 169 yL_stepsToEll wsL_stepsToEll) := goodIn_app (goodIn_of _ (by decide +kernel)) ggL_law_L_stepsToEll
set_option maxRecDepth 20000 in
theorem ggL_law_X2_stepsToEll : GoodIn wsL_law wsX2_stepsToEll := goodIn_r _ [314, 85, 36, 86, 87, 88, 5, 89, 35, 90, 91, 92, 93, 94, 95, 96, 706, 707, 708, 709, 710, 711, 712, 713, 714, 715, 716, 717, 718, 719] (by decide +kernel) (by decide +kernel)
set_option maxRecDepth 20000 in
theorem gL_law_X2_stepsToEll : GoodIn wsL_law (wsV RL 171 RX2 yX2_stepsToEll wsX2_stepsToEll) := goodIn_app (goodIn_of _ (by decide +kernel)) ggL_law_X2_stepsToEll
set_option maxRecDepth 20000 in
theorem ggL_law_L_lengthTop : GoodIn wsL_law wsL_lengthTop := goodIn_ca (goodIn_r _ [317, 49, 318, 319, 320, 2, 321, 16, 24, 60, 61, 62, 63, 64, 65, 23, 66, 67, 68, 322, 323, 324, 325, 326, 327, 328, 329, 330, 697, 698, 699, 700, 701, 702, 703, 704, 705] (by decide +kernel) (by decide +kernel)) (goodIn_sub (fun _ h => List.mem_append_right _ h) (by decide +kernel))
set_option maxRecDepth 20000 in
theorem gL_law_L_lengthTop : GoodIn wsL_law (va_wsS RL 172 yL_lengthTop wsL_lengthTop) := goodIn_app (goodIn_of _ (by decide +kernel)) ggL_law_L_lengthTop
set_option maxRecDepth 20000 in
theorem ggL_law_X2_lengthTop : GoodIn wsL_law wsX2_lengthTop := goodIn_r _ [334, 85, 116, 86, 87, 88, 5, 89, 35, 90, 91, 92, 335, 336, 337, 338, 39, 339, 340, 341, 93, 94, 95, 96, 706, 707, 708, 709, 710, 711, 712, 713, 714, 715, 716, 717, 718, 719] (by decide +kernel) (by decide +kernel)
set_option maxRecDepth 20000 in
theorem gL_law_X2_lengthTop : GoodIn wsL_law (wsV RL 174 RX2 yX2_lengthTop wsX2_lengthTop) := goodIn_app (goodIn_of _ (by decide +kernel)) ggL_law_X2_lengthTop
set_option maxRecDepth 20000 in
theorem ggL_law_L_lengthBottom : GoodIn wsL_law wsL_lengthBottom := goodIn_ca (goodIn_r _ [344, 49, 345, 346, 347, 2, 348, 16, 24, 60, 61, 62, 63, 64, 65, 23, 66, 67, 68, 322, 323, 324, 325, 326, 327, 328, 329, 330, 697, 698, 699, 700, 701, 702, 703, 704, 705] (by decide +kernel) (by decide +kernel)) (goodIn_sub (fun _ h => List.mem_append_right _ h) (by decide +kernel))
set_option maxRecDepth 20000 in
theorem gL_law_L_lengthBottom : GoodIn wsL_law (va_wsS RL 175 yL_lengthBottom wsL_lengthBottom) := goodIn_app (goodIn_of _ (by decide +kernel)) ggL_law_L_lengthBottom
set_option maxRecDepth 20000 in
theorem ggL_law_X2_lengthBottom : GoodIn wsL_law wsX2_lengthBottom := goodIn_r _ [352, 85, 116, 86, 87, 88, 5, 89, 35, 90, 91, 92, 335, 336, 337, 338, 39, 339, 340, 341, 93, 94, 95, 96, 706, 707, 708, 709, 710, 711, 712, 713, 714, 715, 716, 717, 718, 719] (by decide +kernel) (by decide +kernel)
set_option maxRecDepth 20000 in
theorem gL_law_X2_lengthBottom : GoodIn wsL_law (wsV RL 177 RX2 yX2_lengthBottom wsX2_lengthBottom) := goodIn_app (goodIn_of _ (by decide +kernel)) ggL_law_X2_lengthBottom
set_option maxRecDepth 20000 in
theorem ggL_law_L_isLonger : GoodIn wsL_law wsL_isLonger := goodIn_ca (goodIn_r _ [355, 49, 356, 357, 358, 2, 359, 16, 60, 61, 62, 63, 64, 65, 23, 66, 67, 68, 697, 698, 699, 700, 701, 702, 703, 704, 705] (by decide +kernel) (by decide +kernel)) (goodIn_sub (fun _ h => List.mem_append_right _ h) (by decide +kernel))
set_option maxRecDepth 20000 in
theorem gL_law_L_isLonger : GoodIn wsL_law (va_wsS RL 178 yL_isLonger wsL_isLonger) := goodIn_app (goodIn_of _ (by decide +kernel)) ggL_law_L_isLonger
set_option maxRecDepth 20000 in
theorem ggL_law_X2_isLonger : GoodIn wsL_law wsX2_isLonger := goodIn_r _ [363, 85, 39, 86, 87, 88, 5, 89, 35, 90, 91, 92, 706, 707, 708, 709, 710, 711, 712, 713, 714, 715, 716, 717, 718, 719] (by decide +kernel) (by decide +kernel)
set_option maxRecDepth 20000 in
theorem gL_law_X2_isLonger : GoodIn wsL_law (wsV RL 180 RX2 yX2_isLonger wsX2_isLonger) := goodIn_app (goodIn_of _ (by decide +kernel)) ggL_law_X2_isLonger
set_option maxRecDepth 20000 in
theorem ggL_law_X1_longest : GoodIn wsL_law wsX1_longest := goodIn_r _ [367, 17, 697, 698, 699, 700, 701, 702, 703, 704, 705] (by decide +kernel) (by decide +kernel)
set_option maxRecDepth 20000 in
theorem gL_law_X1_longest : GoodIn wsL_law (wsV RL 181 RX1 yX1_longest wsX1_longest) := goodIn_app (goodIn_of _ (by decide +kernel)) ggL_law_X1_longest
set_option maxRecDepth 20000 in
theorem ggL_law_X2_longest : GoodIn wsL_law wsX2_longest := goodIn_r _ [371, 40, 249, 250, 251, 5, 252, 85, 706, 707, 708, 709, 710, 711, 712, 713, 714, 715, 716, 717, 718, 719] (by decide +kernel) (by decide +kernel)
set_option maxRecDepth 20000 in
theorem gL_law_X2_longest : GoodIn wsL_law (wsV RL 184 RX2 yX2_longest wsX2_longest) := goodIn_app (goodIn_of _ (by decide +kernel)) ggL_law_X2_longest
set_option maxRecDepth 20000 in
theorem ggL_law_X1_shortest : GoodIn wsL_law wsX1_shortest := goodIn_r _ [375, 23, 16, 697, 698, 699, 700, 701, 702, 703, 704, 705] (by decide +kernel) (by decide +kernel)
set_option maxRecDepth 20000 in
theorem gL_law_X1_shortest : GoodIn wsL_law (wsV RL 185 RX1 yX1_shortest wsX1_shortest) := goodIn_app (goodIn_of _ (by decide +kernel)) ggL_law_X1_shortest
set_option maxRecDepth 20000 in
theorem ggL_law_X2_shortest : GoodIn wsL_law wsX2_shortest := goodIn_r _ [379, 380, 381, 382, 5, 383, 35, 39, 249, 250, 251, 252, 85, 706, 707, 708, 709, 710, 711, 712, 713, 714, 715, 716, 717, 718, 719] (by decide +kernel) (by decide +kernel)
set_option maxRecDepth 20000 in
theorem gL_law_X2_shortest : GoodIn wsL_law (wsV RL 188 RX2 yX2_shortest wsX2_shortest) := goodIn_app (goodIn_of _ (by decide +kernel)) ggL_law_X2_shortest
set_option maxRecDepth 20000 in
theorem ggL_law_L_fewestToMeet : GoodIn wsL_law wsL_fewestToMeet := goodIn_ca (goodIn_r _ [386, 49, 387, 388, 389, 2, 390, 16, 60, 61, 62, 63, 64, 65, 23, 66, 67, 68, 322, 323, 324, 325, 326, 327, 328, 329, 330, 697, 698, 699, 700, 701, 702, 703, 704, 705] (by decide +kernel) (by decide +kernel)) (goodIn_sub (fun _ h => List.mem_append_right _ h) (by decide +kernel))
set_option maxRecDepth 20000 in
theorem gL_law_L_fewestToMeet : GoodIn wsL_law (va_wsS RL 189 yL_fewestToMeet wsL_fewestToMeet) := goodIn_app (goodIn_of _ (by decide +kernel)) ggL_law_L_fewestToMeet
set_option maxRecDepth 20000 in
theorem ggL_law_X2_fewestToMeet : GoodIn wsL_law wsX2_fewestToMeet := goodIn_r _ [394, 85, 86, 87, 88, 5, 89, 35, 90, 91, 92, 335, 336, 337, 338, 39, 339, 340, 341, 93, 94, 95, 96, 706, 707, 708, 709, 710, 711, 712, 713, 714, 715, 716, 717, 718, 719] (by decide +kernel) (by decide +kernel)
set_option maxRecDepth 20000 in
theorem gL_law_X2_fewestToMeet : GoodIn wsL_law (wsV RL 191 RX2 yX2_fewestToMeet wsX2_fewestToMeet) := goodIn_app (goodIn_of _ (by decide +kernel)) ggL_law_X2_fewestToMeet
set_option maxRecDepth 20000 in
theorem ggL_law_L_convert : GoodIn wsL_law wsL_convert := goodIn_ca (goodIn_ca (goodIn_r _ [397, 49, 50, 398, 399, 400, 2, 401, 16, 60, 61, 62, 63, 64, 65, 23, 66, 67, 68, 402, 403, 404, 56, 57, 328, 329, 330, 697, 698, 699, 700, 701, 702, 703, 704, 705] (by decide +kernel) (by decide +kernel)) (goodIn_sub (fun _ h => List.mem_append_right _ h) (by decide +kernel))) (goodIn_sub (fun _ h => List.mem_append_left _ (List.mem_append_left _ (List.mem_append_right _ h))) (by decide +kernel))
set_option maxRecDepth 20000 in
theorem gL_law_L_convert : GoodIn wsL_law (va_wsS RL 192 yL_convert wsL_convert) := goodIn_app (goodIn_of _ (by decide +kernel)) ggL_law_L_convert
set_option maxRecDepth 20000 in
theorem ggL_law_X2_convert : GoodIn wsL_law wsX2_convert := goodIn_r _ [408, 39, 409, 410, 411, 5, 412, 85, 86, 87, 88, 89, 35, 90, 91, 92, 706, 707, 708, 709, 710, 711, 712, 713, 714, 715, 716, 717, 718, 719] (by decide +kernel) (by decide +kernel)
set_option maxRecDepth 20000 in
theorem gL_law_X2_convert : GoodIn wsL_law (wsV RL 194 RX2 yX2_convert wsX2_convert) := goodIn_app (goodIn_of _ (by decide +kernel)) ggL_law_X2_convert
set_option maxRecDepth 20000 in
theorem ggL_law_L_isExact : GoodIn wsL_law wsL_isExact := goodIn_ca (goodIn_ca (goodIn_r _ [415, 49, 50, 416, 417, 418, 2, 419, 16, 60, 61, 62, 63, 64, 65, 23, 66, 67, 68, 402, 403, 404, 56, 57, 420, 421, 422, 697, 698, 699, 700, 701, 702, 703, 704, 705] (by decide +kernel) (by decide +kernel)) (goodIn_sub (fun _ h => List.mem_append_right _ h) (by decide +kernel))) (goodIn_sub (fun _ h => List.mem_append_left _ (List.mem_append_left _ (List.mem_append_right _ h))) (by decide +kernel))
set_option maxRecDepth 20000 in
theorem gL_law_L_isExact : GoodIn wsL_law (va_wsS RL 195 yL_isExact wsL_isExact) := goodIn_app (goodIn_of _ (by decide +kernel)) ggL_law_L_isExact
set_option maxRecDepth 20000 in
theorem ggL_law_X2_isExact : GoodIn wsL_law wsX2_isExact := goodIn_r _ [426, 39, 409, 410, 411, 5, 412, 85, 86, 87, 88, 89, 35, 90, 91, 92, 706, 707, 708, 709, 710, 711, 712, 713, 714, 715, 716, 717, 718, 719] (by decide +kernel) (by decide +kernel)
set_option maxRecDepth 20000 in
theorem gL_law_X2_isExact : GoodIn wsL_law (wsV RL 197 RX2 yX2_isExact wsX2_isExact) := goodIn_app (goodIn_of _ (by decide +kernel)) ggL_law_X2_isExact
set_option maxRecDepth 20000 in
theorem ggL_law_L_piecesOf : GoodIn wsL_law wsL_piecesOf := goodIn_ca (goodIn_ca (goodIn_r _ [429, 49, 50, 430, 431, 432, 2, 433, 16, 23, 17, 60, 61, 62, 63, 64, 65, 66, 67, 68, 402, 403, 404, 56, 57, 77, 78, 79, 80, 420, 421, 422, 328, 329, 330, 697, 698, 699, 700, 701, 702, 703, 704, 705] (by decide +kernel) (by decide +kernel)) (goodIn_sub (fun _ h => List.mem_append_right _ h) (by decide +kernel))) (goodIn_sub (fun _ h => List.mem_append_left _ (List.mem_append_left _ (List.mem_append_right _ h))) (by decide +kernel))
set_option maxRecDepth 20000 in
theorem gL_law_L_piecesOf : GoodIn wsL_law (va_wsS RL 198 yL_piecesOf wsL_piecesOf) := goodIn_app (goodIn_of _ (by decide +kernel)) ggL_law_L_piecesOf
set_option maxRecDepth 20000 in
theorem ggL_law_X2_piecesOf : GoodIn wsL_law wsX2_piecesOf := goodIn_r _ [437, 39, 409, 410, 411, 5, 412, 85, 86, 87, 88, 89, 35, 90, 91, 92, 438, 439, 440, 441, 442, 40, 706, 707, 708, 709, 710, 711, 712, 713, 714, 715, 716, 717, 718, 719] (by decide +kernel) (by decide +kernel)
set_option maxRecDepth 20000 in
theorem gL_law_X2_piecesOf : GoodIn wsL_law (wsV RL 200 RX2 yX2_piecesOf wsX2_piecesOf) := goodIn_app (goodIn_of _ (by decide +kernel)) ggL_law_X2_piecesOf
set_option maxRecDepth 20000 in
theorem ggL_law_L_pieces : GoodIn wsL_law wsL_pieces := goodIn_ca (goodIn_ca (goodIn_r _ [445, 49, 50, 446, 447, 448, 2, 449, 16, 23, 60, 61, 62, 63, 64, 65, 66, 67, 68, 402, 403, 404, 56, 57, 77, 78, 79, 80, 17, 328, 329, 330, 420, 421, 422, 697, 698, 699, 700, 701, 702, 703, 704, 705] (by decide +kernel) (by decide +kernel)) (goodIn_sub (fun _ h => List.mem_append_right _ h) (by decide +kernel))) (goodIn_sub (fun _ h => List.mem_append_left _ (List.mem_append_left _ (List.mem_append_right _ h))) (by decide +kernel))
set_option maxRecDepth 20000 in
theorem gL_law_L_pieces : GoodIn wsL_law (va_wsS RL 201 yL_pieces wsL_pieces) := goodIn_app (goodIn_of _ (by decide +kernel)) ggL_law_L_pieces
set_option maxRecDepth 20000 in
theorem ggL_law_X2_pieces : GoodIn wsL_law wsX2_pieces := goodIn_r _ [453, 39, 409, 410, 411, 5, 412, 85, 86, 87, 88, 89, 35, 90, 91, 92, 438, 439, 440, 441, 442, 40, 706, 707, 708, 709, 710, 711, 712, 713, 714, 715, 716, 717, 718, 719] (by decide +kernel) (by decide +kernel)
set_option maxRecDepth 20000 in
theorem gL_law_X2_pieces : GoodIn wsL_law (wsV RL 203 RX2 yX2_pieces wsX2_pieces) := goodIn_app (goodIn_of _ (by decide +kernel)) ggL_law_X2_pieces
set_option maxRecDepth 20000 in
theorem ggL_law_L_isTold : GoodIn wsL_law wsL_isTold := goodIn_ca (goodIn_ca (goodIn_r _ [456, 49, 50, 457, 458, 459, 2, 460, 16, 23, 60, 61, 62, 63, 64, 65, 66, 67, 68, 402, 403, 404, 56, 57, 77, 78, 79, 80, 17, 420, 421, 422, 697, 698, 699, 700, 701, 702, 703, 704, 705] (by decide +kernel) (by decide +kernel)) (goodIn_sub (fun _ h => List.mem_append_right _ h) (by decide +kernel))) (goodIn_sub (fun _ h => List.mem_append_left _ (List.mem_append_left _ (List.mem_append_right _ h))) (by decide +kernel))
set_option maxRecDepth 20000 in
theorem gL_law_L_isTold : GoodIn wsL_law (va_wsS RL 204 yL_isTold wsL_isTold) := goodIn_app (goodIn_of _ (by decide +kernel)) ggL_law_L_isTold
set_option maxRecDepth 20000 in
theorem ggL_law_X2_isTold : GoodIn wsL_law wsX2_isTold := goodIn_r _ [464, 409, 410, 411, 5, 412, 85, 86, 87, 88, 89, 35, 90, 91, 92, 465, 466, 467, 468, 39, 442, 438, 439, 440, 441, 40, 706, 707, 708, 709, 710, 711, 712, 713, 714, 715, 716, 717, 718, 719] (by decide +kernel) (by decide +kernel)
set_option maxRecDepth 20000 in
theorem gL_law_X2_isTold : GoodIn wsL_law (wsV RL 206 RX2 yX2_isTold wsX2_isTold) := goodIn_app (goodIn_of _ (by decide +kernel)) ggL_law_X2_isTold
set_option maxRecDepth 20000 in
theorem ggL_law_L_bestMeasure : GoodIn wsL_law wsL_bestMeasure := goodIn_ca (goodIn_ca (goodIn_r _ [471, 49, 50, 472, 473, 474, 2, 475, 16, 23, 17, 60, 61, 62, 63, 64, 65, 66, 67, 68, 402, 403, 404, 56, 57, 77, 78, 79, 80, 420, 421, 422, 697, 698, 699, 700, 701, 702, 703, 704, 705] (by decide +kernel) (by decide +kernel)) (goodIn_sub (fun _ h => List.mem_append_right _ h) (by decide +kernel))) (goodIn_sub (fun _ h => List.mem_append_left _ (List.mem_append_left _ (List.mem_append_right _ h))) (by decide +kernel))
set_option maxRecDepth 20000 in
theorem gL_law_L_bestMeasure : GoodIn wsL_law (va_wsS RL 207 yL_bestMeasure wsL_bestMeasure) := goodIn_app (goodIn_of _ (by decide +kernel)) ggL_law_L_bestMeasure
set_option maxRecDepth 20000 in
theorem ggL_law_X2_bestMeasure : GoodIn wsL_law wsX2_bestMeasure := goodIn_r _ [479, 409, 410, 411, 5, 412, 85, 86, 87, 88, 89, 35, 90, 91, 92, 480, 481, 482, 483, 39, 40, 706, 707, 708, 709, 710, 711, 712, 713, 714, 715, 716, 717, 718, 719] (by decide +kernel) (by decide +kernel)
set_option maxRecDepth 20000 in
theorem gL_law_X2_bestMeasure : GoodIn wsL_law (wsV RL 209 RX2 yX2_bestMeasure wsX2_bestMeasure) := goodIn_app (goodIn_of _ (by decide +kernel)) ggL_law_X2_bestMeasure
set_option maxRecDepth 20000 in
theorem ggL_law_L_driftOf : GoodIn wsL_law wsL_driftOf := goodIn_ca (goodIn_r _ [486, 49, 487, 488, 489, 2, 490, 21, 139, 140, 141, 142, 64, 65, 66, 67, 68, 697, 698, 699, 700, 701, 702, 703, 704, 705, 720, 721, 722, 723, 724] (by decide +kernel) (by decide +kernel)) (goodIn_sub (fun _ h => List.mem_append_right _ h) (by decide +kernel))
set_option maxRecDepth 20000 in
theorem gL_law_L_driftOf : GoodIn wsL_law (va_wsS RL 210 yL_driftOf wsL_driftOf) := goodIn_app (goodIn_of _ (by decide +kernel)) ggL_law_L_driftOf
set_option maxRecDepth 20000 in
theorem ggL_law_X2_driftOf : GoodIn wsL_law wsX2_driftOf := goodIn_r _ [494, 85, 43, 147, 148, 149, 5, 150, 131, 90, 91, 92, 93, 94, 95, 96, 706, 707, 708, 709, 710, 711, 712, 713, 714, 715, 716, 717, 718, 719] (by decide +kernel) (by decide +kernel)
set_option maxRecDepth 20000 in
theorem gL_law_X2_driftOf : GoodIn wsL_law (wsV RL 212 RX2 yX2_driftOf wsX2_driftOf) := goodIn_app (goodIn_of _ (by decide +kernel)) ggL_law_X2_driftOf
set_option maxRecDepth 20000 in
theorem ggL_law_L_wearOf : GoodIn wsL_law wsL_wearOf := goodIn_ca (goodIn_r _ [497, 49, 498, 499, 500, 2, 501, 21, 139, 140, 141, 142, 64, 65, 66, 67, 68, 697, 698, 699, 700, 701, 702, 703, 704, 705, 720, 721, 722, 723, 724] (by decide +kernel) (by decide +kernel)) (goodIn_sub (fun _ h => List.mem_append_right _ h) (by decide +kernel))
set_option maxRecDepth 20000 in
theorem gL_law_L_wearOf : GoodIn wsL_law (va_wsS RL 213 yL_wearOf wsL_wearOf) := goodIn_app (goodIn_of _ (by decide +kernel)) ggL_law_L_wearOf
set_option maxRecDepth 20000 in
theorem ggL_law_X2_wearOf : GoodIn wsL_law wsX2_wearOf := goodIn_r _ [505, 85, 41, 147, 148, 149, 5, 150, 131, 90, 91, 92, 93, 94, 95, 96, 706, 707, 708, 709, 710, 711, 712, 713, 714, 715, 716, 717, 718, 719] (by decide +kernel) (by decide +kernel)
set_option maxRecDepth 20000 in
theorem gL_law_X2_wearOf : GoodIn wsL_law (wsV RL 215 RX2 yX2_wearOf wsX2_wearOf) := goodIn_app (goodIn_of _ (by decide +kernel)) ggL_law_X2_wearOf
set_option maxRecDepth 20000 in
theorem ggL_law_L_isHonest : GoodIn wsL_law wsL_isHonest := goodIn_ca (goodIn_r _ [508, 49, 509, 510, 511, 2, 512, 21, 139, 140, 141, 142, 64, 65, 66, 67, 68, 219, 20, 220, 221, 215, 216, 198, 217, 30, 697, 698, 699, 700, 701, 702, 703, 704, 705, 720, 721, 722, 723, 724] (by decide +kernel) (by decide +kernel)) (goodIn_sub (fun _ h => List.mem_append_right _ h) (by decide +kernel))
set_option maxRecDepth 20000 in
theorem gL_law_L_isHonest : GoodIn wsL_law (va_wsS RL 216 yL_isHonest wsL_isHonest) := goodIn_app (goodIn_of _ (by decide +kernel)) ggL_law_L_isHonest
set_option maxRecDepth 20000 in
theorem ggL_law_X2_isHonest : GoodIn wsL_law wsX2_isHonest := goodIn_r _ [516, 85, 147, 148, 149, 5, 150, 131, 90, 91, 92, 237, 238, 239, 240, 43, 236, 216, 198, 217, 42, 706, 707, 708, 709, 710, 711, 712, 713, 714, 715, 716, 717, 718, 719] (by decide +kernel) (by decide +kernel)
set_option maxRecDepth 20000 in
theorem gL_law_X2_isHonest : GoodIn wsL_law (wsV RL 218 RX2 yX2_isHonest wsX2_isHonest) := goodIn_app (goodIn_of _ (by decide +kernel)) ggL_law_X2_isHonest
set_option maxRecDepth 20000 in
theorem ggL_law_L_getsAt : GoodIn wsL_law wsL_getsAt := goodIn_ca (goodIn_ca (goodIn_r _ [519, 49, 50, 520, 521, 522, 2, 523, 21, 139, 140, 141, 142, 64, 65, 66, 67, 68, 60, 61, 62, 63, 23, 402, 403, 404, 56, 57, 524, 525, 526, 527, 16, 24, 328, 329, 330, 697, 698, 699, 700, 701, 702, 703, 704, 705, 720, 721, 722, 723, 724] (by decide +kernel) (by decide +kernel)) (goodIn_sub (fun _ h => List.mem_append_right _ h) (by decide +kernel))) (goodIn_sub (fun _ h => List.mem_append_left _ (List.mem_append_left _ (List.mem_append_right _ h))) (by decide +kernel))
set_option maxRecDepth 20000 in
theorem gL_law_L_getsAt : GoodIn wsL_law (va_wsS RL 219 yL_getsAt wsL_getsAt) := goodIn_app (goodIn_of _ (by decide +kernel)) ggL_law_L_getsAt
set_option maxRecDepth 20000 in
theorem ggL_law_X2_getsAt : GoodIn wsL_law wsX2_getsAt := goodIn_r _ [531, 43, 532, 533, 534, 5, 535, 85, 147, 148, 149, 150, 131, 90, 91, 92, 86, 87, 88, 89, 35, 536, 537, 538, 539, 116, 335, 336, 337, 338, 39, 339, 340, 341, 706, 707, 708, 709, 710, 711, 712, 713, 714, 715, 716, 717, 718, 719] (by decide +kernel) (by decide +kernel)
set_option maxRecDepth 20000 in
theorem gL_law_X2_getsAt : GoodIn wsL_law (wsV RL 221 RX2 yX2_getsAt wsX2_getsAt) := goodIn_app (goodIn_of _ (by decide +kernel)) ggL_law_X2_getsAt
set_option maxRecDepth 20000 in
theorem ggL_law_L_lossAt : GoodIn wsL_law wsL_lossAt := goodIn_ca (goodIn_ca (goodIn_r _ [542, 49, 50, 543, 544, 545, 2, 546, 21, 139, 140, 141, 142, 64, 65, 66, 67, 68, 60, 61, 62, 63, 23, 402, 403, 404, 56, 57, 524, 525, 526, 527, 16, 24, 328, 329, 330, 697, 698, 699, 700, 701, 702, 703, 704, 705, 720, 721, 722, 723, 724] (by decide +kernel) (by decide +kernel)) (goodIn_sub (fun _ h => List.mem_append_right _ h) (by decide +kernel))) (goodIn_sub (fun _ h => List.mem_append_left _ (List.mem_append_left _ (List.mem_append_right _ h))) (by decide +kernel))
set_option maxRecDepth 20000 in
theorem gL_law_L_lossAt : GoodIn wsL_law (va_wsS RL 222 yL_lossAt wsL_lossAt) := goodIn_app (goodIn_of _ (by decide +kernel)) ggL_law_L_lossAt
set_option maxRecDepth 20000 in
theorem ggL_law_X2_lossAt : GoodIn wsL_law wsX2_lossAt := goodIn_r _ [550, 43, 532, 533, 534, 5, 535, 85, 147, 148, 149, 150, 131, 90, 91, 92, 86, 87, 88, 89, 35, 536, 537, 538, 539, 116, 335, 336, 337, 338, 39, 339, 340, 341, 706, 707, 708, 709, 710, 711, 712, 713, 714, 715, 716, 717, 718, 719] (by decide +kernel) (by decide +kernel)
set_option maxRecDepth 20000 in
theorem gL_law_X2_lossAt : GoodIn wsL_law (wsV RL 224 RX2 yX2_lossAt wsX2_lossAt) := goodIn_app (goodIn_of _ (by decide +kernel)) ggL_law_X2_lossAt
set_option maxRecDepth 20000 in
theorem ggL_law_X1_mostHonest : GoodIn wsL_law wsX1_mostHonest := goodIn_r _ [554, 21, 555, 216, 198, 217, 697, 698, 699, 700, 701, 702, 703, 704, 705, 720, 721, 722, 723, 724] (by decide +kernel) (by decide +kernel)
set_option maxRecDepth 20000 in
theorem gL_law_X1_mostHonest : GoodIn wsL_law (wsV RL 225 RX1 yX1_mostHonest wsX1_mostHonest) := goodIn_app (goodIn_of _ (by decide +kernel)) ggL_law_X1_mostHonest
set_option maxRecDepth 20000 in
theorem ggL_law_X2_mostHonest : GoodIn wsL_law wsX2_mostHonest := goodIn_r _ [559, 560, 561, 562, 5, 563, 131, 43, 236, 216, 198, 217, 249, 250, 251, 252, 85, 706, 707, 708, 709, 710, 711, 712, 713, 714, 715, 716, 717, 718, 719] (by decide +kernel) (by decide +kernel)
set_option maxRecDepth 20000 in
theorem gL_law_X2_mostHonest : GoodIn wsL_law (wsV RL 228 RX2 yX2_mostHonest wsX2_mostHonest) := goodIn_app (goodIn_of _ (by decide +kernel)) ggL_law_X2_mostHonest
set_option maxRecDepth 20000 in
theorem ggL_law_X1_mostGenerous : GoodIn wsL_law wsX1_mostGenerous := goodIn_r _ [567, 21, 697, 698, 699, 700, 701, 702, 703, 704, 705, 720, 721, 722, 723, 724] (by decide +kernel) (by decide +kernel)
set_option maxRecDepth 20000 in
theorem gL_law_X1_mostGenerous : GoodIn wsL_law (wsV RL 229 RX1 yX1_mostGenerous wsX1_mostGenerous) := goodIn_app (goodIn_of _ (by decide +kernel)) ggL_law_X1_mostGenerous
set_option maxRecDepth 20000 in
theorem ggL_law_X2_mostGenerous : GoodIn wsL_law wsX2_mostGenerous := goodIn_r _ [571, 572, 573, 574, 5, 575, 131, 43, 249, 250, 251, 252, 85, 706, 707, 708, 709, 710, 711, 712, 713, 714, 715, 716, 717, 718, 719] (by decide +kernel) (by decide +kernel)
set_option maxRecDepth 20000 in
theorem gL_law_X2_mostGenerous : GoodIn wsL_law (wsV RL 232 RX2 yX2_mostGenerous wsX2_mostGenerous) := goodIn_app (goodIn_of _ (by decide +kernel)) ggL_law_X2_mostGenerous
set_option maxRecDepth 20000 in
theorem ggL_law_L_driftIn : GoodIn wsL_law wsL_driftIn := goodIn_ca (goodIn_ca (goodIn_r _ [578, 49, 50, 579, 580, 581, 2, 582, 22, 21, 139, 140, 141, 142, 64, 65, 66, 67, 68, 181, 182, 183, 56, 57, 583, 20, 584, 585, 28, 29, 191, 30, 192, 184, 185, 186, 187, 188, 189, 190, 193, 194, 195, 196, 197, 198, 199, 200, 201, 202, 203, 204, 205, 206, 207, 208, 209, 210, 211, 212, 213, 214, 215, 216, 217, 218, 219, 220, 221, 697, 698, 699, 700, 701, 702, 703, 704, 705, 720, 721, 722, 723, 724] (by decide +kernel) (by decide +kernel)) (goodIn_sub (fun _ h => List.mem_append_right _ h) (by decide +kernel))) (goodIn_sub (fun _ h => List.mem_append_left _ (List.mem_append_left _ (List.mem_append_right _ h))) (by decide +kernel))
set_option maxRecDepth 20000 in
theorem gL_law_L_driftIn : GoodIn wsL_law (va_wsS RL 233 yL_driftIn wsL_driftIn) := goodIn_app (goodIn_of _ (by decide +kernel)) ggL_law_L_driftIn
set_option maxRecDepth 20000 in
theorem ggL_law_X2_driftIn : GoodIn wsL_law wsX2_driftIn := goodIn_r _ [589, 85, 43, 147, 148, 149, 5, 150, 131, 90, 91, 92, 93, 94, 95, 96, 590, 591, 592, 593, 44, 594, 595, 596, 597, 226, 227, 228, 229, 230, 231, 232, 233, 41, 234, 197, 198, 199, 235, 201, 202, 236, 216, 217, 237, 238, 239, 240, 42, 598, 599, 600, 601, 706, 707, 708, 709, 710, 711, 712, 713, 714, 715, 716, 717, 718, 719] (by decide +kernel) (by decide +kernel)
set_option maxRecDepth 20000 in
theorem gL_law_X2_driftIn : GoodIn wsL_law (wsV RL 235 RX2 yX2_driftIn wsX2_driftIn) := goodIn_app (goodIn_of _ (by decide +kernel)) ggL_law_X2_driftIn
set_option maxRecDepth 20000 in
theorem ggL_law_L_finesIn : GoodIn wsL_law wsL_finesIn := goodIn_ca (goodIn_r _ [604, 50, 605, 606, 607, 2, 608, 22, 21, 181, 182, 183, 56, 57, 66, 67, 68, 583, 20, 584, 585, 28, 29, 191, 30, 192, 184, 185, 186, 187, 188, 189, 190, 193, 194, 195, 196, 197, 198, 199, 200, 201, 202, 203, 204, 205, 206, 207, 208, 209, 210, 211, 212, 213, 214, 215, 216, 217, 218, 219, 220, 221, 697, 698, 699, 700, 701, 702, 703, 704, 705, 720, 721, 722, 723, 724] (by decide +kernel) (by decide +kernel)) (goodIn_sub (fun _ h => List.mem_append_left _ (List.mem_append_left _ (List.mem_append_right _ h))) (by decide +kernel))
set_option maxRecDepth 20000 in
theorem gL_law_L_finesIn : GoodIn wsL_law (va_wsS RL 236 yL_finesIn wsL_finesIn) := goodIn_app (goodIn_of _ (by decide +kernel)) ggL_law_L_finesIn
set_option maxRecDepth 20000 in
theorem ggL_law_X2_finesIn : GoodIn wsL_law wsX2_finesIn := goodIn_r _ [612, 85, 43, 90, 91, 5, 92, 93, 94, 95, 96, 590, 591, 592, 593, 44, 594, 595, 596, 597, 226, 227, 228, 229, 230, 231, 232, 233, 131, 41, 234, 197, 198, 199, 235, 201, 202, 236, 216, 217, 237, 238, 239, 240, 42, 598, 599, 600, 601, 706, 707, 708, 709, 710, 711, 712, 713, 714, 715, 716, 717, 718, 719] (by decide +kernel) (by decide +kernel)
set_option maxRecDepth 20000 in
theorem gL_law_X2_finesIn : GoodIn wsL_law (wsV RL 238 RX2 yX2_finesIn wsX2_finesIn) := goodIn_app (goodIn_of _ (by decide +kernel)) ggL_law_X2_finesIn
set_option maxRecDepth 20000 in
theorem ggL_law_L_daysUntilFined : GoodIn wsL_law wsL_daysUntilFined := goodIn_ca (goodIn_r _ [615, 49, 616, 617, 618, 2, 619, 22, 21, 139, 140, 141, 142, 64, 65, 66, 67, 68, 583, 20, 584, 585, 28, 29, 191, 30, 192, 204, 205, 206, 207, 208, 209, 210, 188, 189, 190, 193, 194, 195, 196, 197, 198, 199, 200, 201, 202, 203, 211, 212, 213, 214, 215, 216, 217, 218, 219, 220, 221, 697, 698, 699, 700, 701, 702, 703, 704, 705, 720, 721, 722, 723, 724] (by decide +kernel) (by decide +kernel)) (goodIn_sub (fun _ h => List.mem_append_right _ h) (by decide +kernel))
set_option maxRecDepth 20000 in
theorem gL_law_L_daysUntilFined : GoodIn wsL_law (va_wsS RL 239 yL_daysUntilFined wsL_daysUntilFined) := goodIn_app (goodIn_of _ (by decide +kernel)) ggL_law_L_daysUntilFined
set_option maxRecDepth 20000 in
theorem ggL_law_X2_daysUntilFined : GoodIn wsL_law wsX2_daysUntilFined := goodIn_r _ [623, 85, 147, 148, 149, 5, 150, 131, 90, 91, 92, 624, 625, 626, 627, 590, 591, 592, 593, 43, 44, 594, 595, 596, 597, 230, 231, 232, 233, 41, 234, 197, 198, 199, 235, 201, 202, 236, 216, 217, 237, 238, 239, 240, 42, 598, 599, 600, 601, 93, 94, 95, 96, 706, 707, 708, 709, 710, 711, 712, 713, 714, 715, 716, 717, 718, 719] (by decide +kernel) (by decide +kernel)
set_option maxRecDepth 20000 in
theorem gL_law_X2_daysUntilFined : GoodIn wsL_law (wsV RL 241 RX2 yX2_daysUntilFined wsX2_daysUntilFined) := goodIn_app (goodIn_of _ (by decide +kernel)) ggL_law_X2_daysUntilFined
set_option maxRecDepth 20000 in
theorem ggL_law_L_bestDayAt : GoodIn wsL_law wsL_bestDayAt := goodIn_ca (goodIn_r _ [630, 49, 631, 632, 633, 2, 634, 22, 21, 139, 140, 141, 142, 64, 65, 66, 67, 68, 583, 20, 584, 585, 28, 29, 191, 30, 192, 188, 189, 190, 193, 194, 195, 196, 197, 198, 199, 200, 201, 202, 203, 204, 205, 206, 207, 208, 209, 210, 211, 212, 213, 214, 215, 216, 217, 218, 219, 220, 221, 697, 698, 699, 700, 701, 702, 703, 704, 705, 720, 721, 722, 723, 724] (by decide +kernel) (by decide +kernel)) (goodIn_sub (fun _ h => List.mem_append_right _ h) (by decide +kernel))
set_option maxRecDepth 20000 in
theorem gL_law_L_bestDayAt : GoodIn wsL_law (va_wsS RL 242 yL_bestDayAt wsL_bestDayAt) := goodIn_app (goodIn_of _ (by decide +kernel)) ggL_law_L_bestDayAt
set_option maxRecDepth 20000 in
theorem ggL_law_X2_bestDayAt : GoodIn wsL_law wsX2_bestDayAt := goodIn_r _ [638, 85, 147, 148, 149, 5, 150, 131, 90, 91, 92, 639, 640, 641, 642, 43, 590, 591, 592, 593, 44, 594, 595, 596, 597, 230, 231, 232, 233, 41, 234, 197, 198, 199, 235, 201, 202, 236, 216, 217, 237, 238, 239, 240, 42, 598, 599, 600, 601, 93, 94, 95, 96, 706, 707, 708, 709, 710, 711, 712, 713, 714, 715, 716, 717, 718, 719] (by decide +kernel) (by decide +kernel)
set_option maxRecDepth 20000 in
theorem gL_law_X2_bestDayAt : GoodIn wsL_law (wsV RL 244 RX2 yX2_bestDayAt wsX2_bestDayAt) := goodIn_app (goodIn_of _ (by decide +kernel)) ggL_law_X2_bestDayAt
set_option maxRecDepth 20000 in
theorem ggL_law_X1_meanDrift : GoodIn wsL_law wsX1_meanDrift := goodIn_r _ [646, 21, 697, 698, 699, 700, 701, 702, 703, 704, 705, 720, 721, 722, 723, 724] (by decide +kernel) (by decide +kernel)
set_option maxRecDepth 20000 in
theorem gL_law_X1_meanDrift : GoodIn wsL_law (wsV RL 245 RX1 yX1_meanDrift wsX1_meanDrift) := goodIn_app (goodIn_of _ (by decide +kernel)) ggL_law_X1_meanDrift
set_option maxRecDepth 20000 in
theorem ggL_law_X2_meanDrift : GoodIn wsL_law wsX2_meanDrift := goodIn_r _ [650, 85, 131, 43, 706, 707, 708, 709, 710, 711, 712, 713, 714, 715, 716, 717, 718, 719] (by decide +kernel) (by decide +kernel)
set_option maxRecDepth 20000 in
theorem gL_law_X2_meanDrift : GoodIn wsL_law (wsV RL 249 RX2 yX2_meanDrift wsX2_meanDrift) := goodIn_app (goodIn_of _ (by decide +kernel)) ggL_law_X2_meanDrift
set_option maxRecDepth 20000 in
theorem ggL_law_X1_digest : GoodIn wsL_law wsX1_digest := goodIn_ca (goodIn_ca (goodIn_r _ [654, 655, 23, 21, 656, 242, 243, 2, 244, 657, 658, 659, 660, 661, 254, 255, 256, 662, 262, 263, 264, 663, 270, 271, 272, 24, 664, 278, 279, 280, 665, 286, 287, 288, 180, 666, 365, 366, 367, 17, 667, 373, 374, 375, 16, 668, 552, 553, 554, 555, 216, 198, 217, 669, 565, 566, 567, 670, 671, 672, 673, 674, 297, 298, 299, 14, 60, 61, 62, 63, 64, 65, 66, 67, 68, 675, 319, 320, 321, 322, 323, 324, 325, 326, 327, 328, 329, 330, 676, 346, 347, 348, 677, 447, 448, 449, 402, 403, 404, 56, 57, 77, 78, 79, 80, 420, 421, 422, 678, 458, 459, 460, 679, 473, 474, 475, 680, 681, 682, 683, 684, 488, 489, 490, 139, 140, 141, 142, 685, 499, 500, 501, 686, 510, 511, 512, 219, 20, 220, 221, 215, 30, 687, 521, 522, 523, 524, 525, 526, 527, 688, 617, 618, 619, 22, 583, 584, 585, 28, 29, 191, 192, 204, 205, 206, 207, 208, 209, 210, 188, 189, 190, 193, 194, 195, 196, 197, 199, 200, 201, 202, 203, 211, 212, 213, 214, 218, 689, 632, 633, 634, 697, 698, 699, 700, 701, 702, 703, 704, 705, 720, 721, 722, 723, 724] (by decide +kernel) (by decide +kernel)) (goodIn_sub (fun _ h => List.mem_append_right _ h) (by decide +kernel))) (goodIn_sub (fun _ h => List.mem_append_left _ (List.mem_append_left _ (List.mem_append_right _ h))) (by decide +kernel))
set_option maxRecDepth 20000 in
theorem gL_law_X1_digest : GoodIn wsL_law (wsV RL 250 RX1 yX1_digest wsX1_digest) := goodIn_app (goodIn_of _ (by decide +kernel)) ggL_law_X1_digest
set_option maxRecDepth 20000 in
theorem ggL_law_X2_digest : GoodIn wsL_law wsX2_digest := goodIn_r _ [693, 85, 13, 35, 131, 43, 116, 42, 40, 694, 695, 36, 696, 39, 41, 380, 381, 382, 5, 383, 560, 561, 562, 563, 236, 216, 198, 217, 572, 573, 574, 575, 335, 336, 337, 338, 339, 340, 341, 438, 439, 440, 441, 442, 465, 466, 467, 468, 480, 481, 482, 483, 237, 238, 239, 240, 536, 537, 538, 539, 624, 625, 626, 627, 590, 591, 592, 593, 44, 594, 595, 596, 597, 230, 231, 232, 233, 234, 197, 199, 235, 201, 202, 598, 599, 600, 601, 639, 640, 641, 642, 706, 707, 708, 709, 710, 711, 712, 713, 714, 715, 716, 717, 718, 719] (by decide +kernel) (by decide +kernel)
set_option maxRecDepth 20000 in
theorem gL_law_X2_digest : GoodIn wsL_law (wsV RL 254 RX2 yX2_digest wsX2_digest) := goodIn_app (goodIn_of _ (by decide +kernel)) ggL_law_X2_digest
theorem dL_law_0 : decode cL_law 0 = .ok (.new 8, 3) := by decide +kernel
theorem dL_law_3 : decode cL_law 3 = .ok (.dup, 1) := by decide +kernel
theorem dL_law_4 : decode cL_law 4 = .ok (.invokespecial 108, 3) := by decide +kernel
theorem dL_law_7 : decode cL_law 7 = .ok (.astore_n 1, 1) := by decide +kernel
theorem dL_law_8 : decode cL_law 8 = .ok (.new 109, 3) := by decide +kernel
theorem dL_law_11 : decode cL_law 11 = .ok (.dup, 1) := by decide +kernel
theorem dL_law_12 : decode cL_law 12 = .ok (.invokespecial 111, 3) := by decide +kernel
theorem dL_law_15 : decode cL_law 15 = .ok (.astore_n 2, 1) := by decide +kernel
theorem dL_law_16 : decode cL_law 16 = .ok (.iconst 1, 1) := by decide +kernel
theorem dL_law_17 : decode cL_law 17 = .ok (.newarray .long, 2) := by decide +kernel
theorem dL_law_19 : decode cL_law 19 = .ok (.astore_n 3, 1) := by decide +kernel
theorem dL_law_20 : decode cL_law 20 = .ok (.iconst 0, 1) := by decide +kernel
theorem dL_law_21 : decode cL_law 21 = .ok (.istore 4, 2) := by decide +kernel
theorem dL_law_23 : decode cL_law 23 = .ok (.iload 4, 2) := by decide +kernel
theorem dL_law_25 : decode cL_law 25 = .ok (.aload_n 0, 1) := by decide +kernel
theorem dL_law_26 : decode cL_law 26 = .ok (.arraylength, 1) := by decide +kernel
theorem dL_law_27 : decode cL_law 27 = .ok (.iconst 4, 1) := by decide +kernel
theorem dL_law_28 : decode cL_law 28 = .ok (.isub, 1) := by decide +kernel
theorem dL_law_29 : decode cL_law 29 = .ok (.if_icmp .gt 2190, 3) := by decide +kernel
theorem dL_law_32 : decode cL_law 32 = .ok (.aload_n 0, 1) := by decide +kernel
theorem dL_law_33 : decode cL_law 33 = .ok (.iload 4, 2) := by decide +kernel
theorem dL_law_35 : decode cL_law 35 = .ok (.iaload, 1) := by decide +kernel
theorem dL_law_36 : decode cL_law 36 = .ok (.bipush 63, 2) := by decide +kernel
theorem dL_law_38 : decode cL_law 38 = .ok (.iand, 1) := by decide +kernel
theorem dL_law_39 : decode cL_law 39 = .ok (.tableswitch 2174 0 39 #[173, 253, 309, 365, 433, 489, 545, 601, 614, 627, 640, 653, 666, 679, 735, 791, 846, 901, 976, 989, 1002, 1069, 1148, 1235, 1314, 1381, 1456, 1524, 1580, 1636, 1699, 1778, 1857, 1870, 1883, 1951, 2007, 2063, 2119, 2160], 173) := by decide +kernel
theorem dL_law_212 : decode cL_law 212 = .ok (.aload_n 1, 1) := by decide +kernel
theorem dL_law_213 : decode cL_law 213 = .ok (.aload_n 0, 1) := by decide +kernel
theorem dL_law_214 : decode cL_law 214 = .ok (.iload 4, 2) := by decide +kernel
theorem dL_law_216 : decode cL_law 216 = .ok (.iconst 1, 1) := by decide +kernel
theorem dL_law_217 : decode cL_law 217 = .ok (.iadd, 1) := by decide +kernel
theorem dL_law_218 : decode cL_law 218 = .ok (.iaload, 1) := by decide +kernel
theorem dL_law_219 : decode cL_law 219 = .ok (.aload_n 0, 1) := by decide +kernel
theorem dL_law_220 : decode cL_law 220 = .ok (.iload 4, 2) := by decide +kernel
theorem dL_law_222 : decode cL_law 222 = .ok (.iconst 2, 1) := by decide +kernel
theorem dL_law_223 : decode cL_law 223 = .ok (.iadd, 1) := by decide +kernel
theorem dL_law_224 : decode cL_law 224 = .ok (.iaload, 1) := by decide +kernel
theorem dL_law_225 : decode cL_law 225 = .ok (.aload_n 0, 1) := by decide +kernel
theorem dL_law_226 : decode cL_law 226 = .ok (.iload 4, 2) := by decide +kernel
theorem dL_law_228 : decode cL_law 228 = .ok (.iconst 3, 1) := by decide +kernel
theorem dL_law_229 : decode cL_law 229 = .ok (.iadd, 1) := by decide +kernel
theorem dL_law_230 : decode cL_law 230 = .ok (.iaload, 1) := by decide +kernel
theorem dL_law_231 : decode cL_law 231 = .ok (.aload_n 3, 1) := by decide +kernel
theorem dL_law_232 : decode cL_law 232 = .ok (.invokestatic 112, 3) := by decide +kernel
theorem dL_law_235 : decode cL_law 235 = .ok (.istore 5, 2) := by decide +kernel
theorem dL_law_237 : decode cL_law 237 = .ok (.aload_n 2, 1) := by decide +kernel
theorem dL_law_238 : decode cL_law 238 = .ok (.aload_n 0, 1) := by decide +kernel
theorem dL_law_239 : decode cL_law 239 = .ok (.iload 4, 2) := by decide +kernel
theorem dL_law_241 : decode cL_law 241 = .ok (.iconst 1, 1) := by decide +kernel
theorem dL_law_242 : decode cL_law 242 = .ok (.iadd, 1) := by decide +kernel
theorem dL_law_243 : decode cL_law 243 = .ok (.iaload, 1) := by decide +kernel
theorem dL_law_244 : decode cL_law 244 = .ok (.aload_n 0, 1) := by decide +kernel
theorem dL_law_245 : decode cL_law 245 = .ok (.iload 4, 2) := by decide +kernel
theorem dL_law_247 : decode cL_law 247 = .ok (.iconst 2, 1) := by decide +kernel
theorem dL_law_248 : decode cL_law 248 = .ok (.iadd, 1) := by decide +kernel
theorem dL_law_249 : decode cL_law 249 = .ok (.iaload, 1) := by decide +kernel
theorem dL_law_250 : decode cL_law 250 = .ok (.aload_n 0, 1) := by decide +kernel
theorem dL_law_251 : decode cL_law 251 = .ok (.iload 4, 2) := by decide +kernel
theorem dL_law_253 : decode cL_law 253 = .ok (.iconst 3, 1) := by decide +kernel
theorem dL_law_254 : decode cL_law 254 = .ok (.iadd, 1) := by decide +kernel
theorem dL_law_255 : decode cL_law 255 = .ok (.iaload, 1) := by decide +kernel
theorem dL_law_256 : decode cL_law 256 = .ok (.invokevirtual 117, 3) := by decide +kernel
theorem dL_law_259 : decode cL_law 259 = .ok (.istore 6, 2) := by decide +kernel
theorem dL_law_261 : decode cL_law 261 = .ok (.aload_n 2, 1) := by decide +kernel
theorem dL_law_262 : decode cL_law 262 = .ok (.invokevirtual 118, 3) := by decide +kernel
theorem dL_law_265 : decode cL_law 265 = .ok (.iload 5, 2) := by decide +kernel
theorem dL_law_267 : decode cL_law 267 = .ok (.if_icmp .eq 5, 3) := by decide +kernel
theorem dL_law_270 : decode cL_law 270 = .ok (.iconst 0, 1) := by decide +kernel
theorem dL_law_271 : decode cL_law 271 = .ok (.ireturn, 1) := by decide +kernel
theorem dL_law_272 : decode cL_law 272 = .ok (.iload 5, 2) := by decide +kernel
theorem dL_law_274 : decode cL_law 274 = .ok (.ifCond .ne 15, 3) := by decide +kernel
theorem dL_law_277 : decode cL_law 277 = .ok (.aload_n 3, 1) := by decide +kernel
theorem dL_law_278 : decode cL_law 278 = .ok (.iconst 0, 1) := by decide +kernel
theorem dL_law_279 : decode cL_law 279 = .ok (.laload, 1) := by decide +kernel
theorem dL_law_280 : decode cL_law 280 = .ok (.iload 6, 2) := by decide +kernel
theorem dL_law_282 : decode cL_law 282 = .ok (.i2l, 1) := by decide +kernel
theorem dL_law_283 : decode cL_law 283 = .ok (.lcmp, 1) := by decide +kernel
theorem dL_law_284 : decode cL_law 284 = .ok (.ifCond .eq 5, 3) := by decide +kernel
theorem dL_law_287 : decode cL_law 287 = .ok (.iconst 0, 1) := by decide +kernel
theorem dL_law_288 : decode cL_law 288 = .ok (.ireturn, 1) := by decide +kernel
theorem dL_law_289 : decode cL_law 289 = .ok (.goto 1924, 3) := by decide +kernel
theorem dL_law_292 : decode cL_law 292 = .ok (.aload_n 1, 1) := by decide +kernel
theorem dL_law_293 : decode cL_law 293 = .ok (.aload_n 0, 1) := by decide +kernel
theorem dL_law_294 : decode cL_law 294 = .ok (.iload 4, 2) := by decide +kernel
theorem dL_law_296 : decode cL_law 296 = .ok (.iconst 1, 1) := by decide +kernel
theorem dL_law_297 : decode cL_law 297 = .ok (.iadd, 1) := by decide +kernel
theorem dL_law_298 : decode cL_law 298 = .ok (.iaload, 1) := by decide +kernel
theorem dL_law_299 : decode cL_law 299 = .ok (.aload_n 3, 1) := by decide +kernel
theorem dL_law_300 : decode cL_law 300 = .ok (.invokestatic 122, 3) := by decide +kernel
theorem dL_law_303 : decode cL_law 303 = .ok (.istore 5, 2) := by decide +kernel
theorem dL_law_305 : decode cL_law 305 = .ok (.aload_n 2, 1) := by decide +kernel
theorem dL_law_306 : decode cL_law 306 = .ok (.aload_n 0, 1) := by decide +kernel
theorem dL_law_307 : decode cL_law 307 = .ok (.iload 4, 2) := by decide +kernel
theorem dL_law_309 : decode cL_law 309 = .ok (.iconst 1, 1) := by decide +kernel
theorem dL_law_310 : decode cL_law 310 = .ok (.iadd, 1) := by decide +kernel
theorem dL_law_311 : decode cL_law 311 = .ok (.iaload, 1) := by decide +kernel
theorem dL_law_312 : decode cL_law 312 = .ok (.invokevirtual 125, 3) := by decide +kernel
theorem dL_law_315 : decode cL_law 315 = .ok (.istore 6, 2) := by decide +kernel
theorem dL_law_317 : decode cL_law 317 = .ok (.aload_n 2, 1) := by decide +kernel
theorem dL_law_318 : decode cL_law 318 = .ok (.invokevirtual 118, 3) := by decide +kernel
theorem dL_law_321 : decode cL_law 321 = .ok (.iload 5, 2) := by decide +kernel
theorem dL_law_323 : decode cL_law 323 = .ok (.if_icmp .eq 5, 3) := by decide +kernel
theorem dL_law_326 : decode cL_law 326 = .ok (.iconst 0, 1) := by decide +kernel
theorem dL_law_327 : decode cL_law 327 = .ok (.ireturn, 1) := by decide +kernel
theorem dL_law_328 : decode cL_law 328 = .ok (.iload 5, 2) := by decide +kernel
theorem dL_law_330 : decode cL_law 330 = .ok (.ifCond .ne 15, 3) := by decide +kernel
theorem dL_law_333 : decode cL_law 333 = .ok (.aload_n 3, 1) := by decide +kernel
theorem dL_law_334 : decode cL_law 334 = .ok (.iconst 0, 1) := by decide +kernel
theorem dL_law_335 : decode cL_law 335 = .ok (.laload, 1) := by decide +kernel
theorem dL_law_336 : decode cL_law 336 = .ok (.iload 6, 2) := by decide +kernel
theorem dL_law_338 : decode cL_law 338 = .ok (.i2l, 1) := by decide +kernel
theorem dL_law_339 : decode cL_law 339 = .ok (.lcmp, 1) := by decide +kernel
theorem dL_law_340 : decode cL_law 340 = .ok (.ifCond .eq 5, 3) := by decide +kernel
theorem dL_law_343 : decode cL_law 343 = .ok (.iconst 0, 1) := by decide +kernel
theorem dL_law_344 : decode cL_law 344 = .ok (.ireturn, 1) := by decide +kernel
theorem dL_law_345 : decode cL_law 345 = .ok (.goto 1868, 3) := by decide +kernel
theorem dL_law_348 : decode cL_law 348 = .ok (.aload_n 1, 1) := by decide +kernel
theorem dL_law_349 : decode cL_law 349 = .ok (.aload_n 0, 1) := by decide +kernel
theorem dL_law_350 : decode cL_law 350 = .ok (.iload 4, 2) := by decide +kernel
theorem dL_law_352 : decode cL_law 352 = .ok (.iconst 1, 1) := by decide +kernel
theorem dL_law_353 : decode cL_law 353 = .ok (.iadd, 1) := by decide +kernel
theorem dL_law_354 : decode cL_law 354 = .ok (.iaload, 1) := by decide +kernel
theorem dL_law_355 : decode cL_law 355 = .ok (.aload_n 3, 1) := by decide +kernel
theorem dL_law_356 : decode cL_law 356 = .ok (.invokestatic 126, 3) := by decide +kernel
theorem dL_law_359 : decode cL_law 359 = .ok (.istore 5, 2) := by decide +kernel
theorem dL_law_361 : decode cL_law 361 = .ok (.aload_n 2, 1) := by decide +kernel
theorem dL_law_362 : decode cL_law 362 = .ok (.aload_n 0, 1) := by decide +kernel
theorem dL_law_363 : decode cL_law 363 = .ok (.iload 4, 2) := by decide +kernel
theorem dL_law_365 : decode cL_law 365 = .ok (.iconst 1, 1) := by decide +kernel
theorem dL_law_366 : decode cL_law 366 = .ok (.iadd, 1) := by decide +kernel
theorem dL_law_367 : decode cL_law 367 = .ok (.iaload, 1) := by decide +kernel
theorem dL_law_368 : decode cL_law 368 = .ok (.invokevirtual 128, 3) := by decide +kernel
theorem dL_law_371 : decode cL_law 371 = .ok (.istore 6, 2) := by decide +kernel
theorem dL_law_373 : decode cL_law 373 = .ok (.aload_n 2, 1) := by decide +kernel
theorem dL_law_374 : decode cL_law 374 = .ok (.invokevirtual 118, 3) := by decide +kernel
theorem dL_law_377 : decode cL_law 377 = .ok (.iload 5, 2) := by decide +kernel
theorem dL_law_379 : decode cL_law 379 = .ok (.if_icmp .eq 5, 3) := by decide +kernel
theorem dL_law_382 : decode cL_law 382 = .ok (.iconst 0, 1) := by decide +kernel
theorem dL_law_383 : decode cL_law 383 = .ok (.ireturn, 1) := by decide +kernel
theorem dL_law_384 : decode cL_law 384 = .ok (.iload 5, 2) := by decide +kernel
theorem dL_law_386 : decode cL_law 386 = .ok (.ifCond .ne 15, 3) := by decide +kernel
theorem dL_law_389 : decode cL_law 389 = .ok (.aload_n 3, 1) := by decide +kernel
theorem dL_law_390 : decode cL_law 390 = .ok (.iconst 0, 1) := by decide +kernel
theorem dL_law_391 : decode cL_law 391 = .ok (.laload, 1) := by decide +kernel
theorem dL_law_392 : decode cL_law 392 = .ok (.iload 6, 2) := by decide +kernel
theorem dL_law_394 : decode cL_law 394 = .ok (.i2l, 1) := by decide +kernel
theorem dL_law_395 : decode cL_law 395 = .ok (.lcmp, 1) := by decide +kernel
theorem dL_law_396 : decode cL_law 396 = .ok (.ifCond .eq 5, 3) := by decide +kernel
theorem dL_law_399 : decode cL_law 399 = .ok (.iconst 0, 1) := by decide +kernel
theorem dL_law_400 : decode cL_law 400 = .ok (.ireturn, 1) := by decide +kernel
theorem dL_law_401 : decode cL_law 401 = .ok (.goto 1812, 3) := by decide +kernel
theorem dL_law_404 : decode cL_law 404 = .ok (.aload_n 1, 1) := by decide +kernel
theorem dL_law_405 : decode cL_law 405 = .ok (.aload_n 0, 1) := by decide +kernel
theorem dL_law_406 : decode cL_law 406 = .ok (.iload 4, 2) := by decide +kernel
theorem dL_law_408 : decode cL_law 408 = .ok (.iconst 1, 1) := by decide +kernel
theorem dL_law_409 : decode cL_law 409 = .ok (.iadd, 1) := by decide +kernel
theorem dL_law_410 : decode cL_law 410 = .ok (.iaload, 1) := by decide +kernel
theorem dL_law_411 : decode cL_law 411 = .ok (.aload_n 0, 1) := by decide +kernel
theorem dL_law_412 : decode cL_law 412 = .ok (.iload 4, 2) := by decide +kernel
theorem dL_law_414 : decode cL_law 414 = .ok (.iconst 2, 1) := by decide +kernel
theorem dL_law_415 : decode cL_law 415 = .ok (.iadd, 1) := by decide +kernel
theorem dL_law_416 : decode cL_law 416 = .ok (.iaload, 1) := by decide +kernel
theorem dL_law_417 : decode cL_law 417 = .ok (.aload_n 3, 1) := by decide +kernel
theorem dL_law_418 : decode cL_law 418 = .ok (.invokestatic 129, 3) := by decide +kernel
theorem dL_law_421 : decode cL_law 421 = .ok (.istore 5, 2) := by decide +kernel
theorem dL_law_423 : decode cL_law 423 = .ok (.aload_n 2, 1) := by decide +kernel
theorem dL_law_424 : decode cL_law 424 = .ok (.aload_n 0, 1) := by decide +kernel
theorem dL_law_425 : decode cL_law 425 = .ok (.iload 4, 2) := by decide +kernel
theorem dL_law_427 : decode cL_law 427 = .ok (.iconst 1, 1) := by decide +kernel
theorem dL_law_428 : decode cL_law 428 = .ok (.iadd, 1) := by decide +kernel
theorem dL_law_429 : decode cL_law 429 = .ok (.iaload, 1) := by decide +kernel
theorem dL_law_430 : decode cL_law 430 = .ok (.aload_n 0, 1) := by decide +kernel
theorem dL_law_431 : decode cL_law 431 = .ok (.iload 4, 2) := by decide +kernel
theorem dL_law_433 : decode cL_law 433 = .ok (.iconst 2, 1) := by decide +kernel
theorem dL_law_434 : decode cL_law 434 = .ok (.iadd, 1) := by decide +kernel
theorem dL_law_435 : decode cL_law 435 = .ok (.iaload, 1) := by decide +kernel
theorem dL_law_436 : decode cL_law 436 = .ok (.invokevirtual 132, 3) := by decide +kernel
theorem dL_law_439 : decode cL_law 439 = .ok (.istore 6, 2) := by decide +kernel
theorem dL_law_441 : decode cL_law 441 = .ok (.aload_n 2, 1) := by decide +kernel
theorem dL_law_442 : decode cL_law 442 = .ok (.invokevirtual 118, 3) := by decide +kernel
theorem dL_law_445 : decode cL_law 445 = .ok (.iload 5, 2) := by decide +kernel
theorem dL_law_447 : decode cL_law 447 = .ok (.if_icmp .eq 5, 3) := by decide +kernel
theorem dL_law_450 : decode cL_law 450 = .ok (.iconst 0, 1) := by decide +kernel
theorem dL_law_451 : decode cL_law 451 = .ok (.ireturn, 1) := by decide +kernel
theorem dL_law_452 : decode cL_law 452 = .ok (.iload 5, 2) := by decide +kernel
theorem dL_law_454 : decode cL_law 454 = .ok (.ifCond .ne 15, 3) := by decide +kernel
theorem dL_law_457 : decode cL_law 457 = .ok (.aload_n 3, 1) := by decide +kernel
theorem dL_law_458 : decode cL_law 458 = .ok (.iconst 0, 1) := by decide +kernel
theorem dL_law_459 : decode cL_law 459 = .ok (.laload, 1) := by decide +kernel
theorem dL_law_460 : decode cL_law 460 = .ok (.iload 6, 2) := by decide +kernel
theorem dL_law_462 : decode cL_law 462 = .ok (.i2l, 1) := by decide +kernel
theorem dL_law_463 : decode cL_law 463 = .ok (.lcmp, 1) := by decide +kernel
theorem dL_law_464 : decode cL_law 464 = .ok (.ifCond .eq 5, 3) := by decide +kernel
theorem dL_law_467 : decode cL_law 467 = .ok (.iconst 0, 1) := by decide +kernel
theorem dL_law_468 : decode cL_law 468 = .ok (.ireturn, 1) := by decide +kernel
theorem dL_law_469 : decode cL_law 469 = .ok (.goto 1744, 3) := by decide +kernel
theorem dL_law_472 : decode cL_law 472 = .ok (.aload_n 1, 1) := by decide +kernel
theorem dL_law_473 : decode cL_law 473 = .ok (.aload_n 0, 1) := by decide +kernel
theorem dL_law_474 : decode cL_law 474 = .ok (.iload 4, 2) := by decide +kernel
theorem dL_law_476 : decode cL_law 476 = .ok (.iconst 1, 1) := by decide +kernel
theorem dL_law_477 : decode cL_law 477 = .ok (.iadd, 1) := by decide +kernel
theorem dL_law_478 : decode cL_law 478 = .ok (.iaload, 1) := by decide +kernel
theorem dL_law_479 : decode cL_law 479 = .ok (.aload_n 3, 1) := by decide +kernel
theorem dL_law_480 : decode cL_law 480 = .ok (.invokestatic 133, 3) := by decide +kernel
theorem dL_law_483 : decode cL_law 483 = .ok (.istore 5, 2) := by decide +kernel
theorem dL_law_485 : decode cL_law 485 = .ok (.aload_n 2, 1) := by decide +kernel
theorem dL_law_486 : decode cL_law 486 = .ok (.aload_n 0, 1) := by decide +kernel
theorem dL_law_487 : decode cL_law 487 = .ok (.iload 4, 2) := by decide +kernel
theorem dL_law_489 : decode cL_law 489 = .ok (.iconst 1, 1) := by decide +kernel
theorem dL_law_490 : decode cL_law 490 = .ok (.iadd, 1) := by decide +kernel
theorem dL_law_491 : decode cL_law 491 = .ok (.iaload, 1) := by decide +kernel
theorem dL_law_492 : decode cL_law 492 = .ok (.invokevirtual 135, 3) := by decide +kernel
theorem dL_law_495 : decode cL_law 495 = .ok (.istore 6, 2) := by decide +kernel
theorem dL_law_497 : decode cL_law 497 = .ok (.aload_n 2, 1) := by decide +kernel
theorem dL_law_498 : decode cL_law 498 = .ok (.invokevirtual 118, 3) := by decide +kernel
theorem dL_law_501 : decode cL_law 501 = .ok (.iload 5, 2) := by decide +kernel
theorem dL_law_503 : decode cL_law 503 = .ok (.if_icmp .eq 5, 3) := by decide +kernel
theorem dL_law_506 : decode cL_law 506 = .ok (.iconst 0, 1) := by decide +kernel
theorem dL_law_507 : decode cL_law 507 = .ok (.ireturn, 1) := by decide +kernel
theorem dL_law_508 : decode cL_law 508 = .ok (.iload 5, 2) := by decide +kernel
theorem dL_law_510 : decode cL_law 510 = .ok (.ifCond .ne 15, 3) := by decide +kernel
theorem dL_law_513 : decode cL_law 513 = .ok (.aload_n 3, 1) := by decide +kernel
theorem dL_law_514 : decode cL_law 514 = .ok (.iconst 0, 1) := by decide +kernel
theorem dL_law_515 : decode cL_law 515 = .ok (.laload, 1) := by decide +kernel
theorem dL_law_516 : decode cL_law 516 = .ok (.iload 6, 2) := by decide +kernel
theorem dL_law_518 : decode cL_law 518 = .ok (.i2l, 1) := by decide +kernel
theorem dL_law_519 : decode cL_law 519 = .ok (.lcmp, 1) := by decide +kernel
theorem dL_law_520 : decode cL_law 520 = .ok (.ifCond .eq 5, 3) := by decide +kernel
theorem dL_law_523 : decode cL_law 523 = .ok (.iconst 0, 1) := by decide +kernel
theorem dL_law_524 : decode cL_law 524 = .ok (.ireturn, 1) := by decide +kernel
theorem dL_law_525 : decode cL_law 525 = .ok (.goto 1688, 3) := by decide +kernel
theorem dL_law_528 : decode cL_law 528 = .ok (.aload_n 1, 1) := by decide +kernel
theorem dL_law_529 : decode cL_law 529 = .ok (.aload_n 0, 1) := by decide +kernel
theorem dL_law_530 : decode cL_law 530 = .ok (.iload 4, 2) := by decide +kernel
theorem dL_law_532 : decode cL_law 532 = .ok (.iconst 1, 1) := by decide +kernel
theorem dL_law_533 : decode cL_law 533 = .ok (.iadd, 1) := by decide +kernel
theorem dL_law_534 : decode cL_law 534 = .ok (.iaload, 1) := by decide +kernel
theorem dL_law_535 : decode cL_law 535 = .ok (.aload_n 3, 1) := by decide +kernel
theorem dL_law_536 : decode cL_law 536 = .ok (.invokestatic 136, 3) := by decide +kernel
theorem dL_law_539 : decode cL_law 539 = .ok (.istore 5, 2) := by decide +kernel
theorem dL_law_541 : decode cL_law 541 = .ok (.aload_n 2, 1) := by decide +kernel
theorem dL_law_542 : decode cL_law 542 = .ok (.aload_n 0, 1) := by decide +kernel
theorem dL_law_543 : decode cL_law 543 = .ok (.iload 4, 2) := by decide +kernel
theorem dL_law_545 : decode cL_law 545 = .ok (.iconst 1, 1) := by decide +kernel
theorem dL_law_546 : decode cL_law 546 = .ok (.iadd, 1) := by decide +kernel
theorem dL_law_547 : decode cL_law 547 = .ok (.iaload, 1) := by decide +kernel
theorem dL_law_548 : decode cL_law 548 = .ok (.invokevirtual 138, 3) := by decide +kernel
theorem dL_law_551 : decode cL_law 551 = .ok (.istore 6, 2) := by decide +kernel
theorem dL_law_553 : decode cL_law 553 = .ok (.aload_n 2, 1) := by decide +kernel
theorem dL_law_554 : decode cL_law 554 = .ok (.invokevirtual 118, 3) := by decide +kernel
theorem dL_law_557 : decode cL_law 557 = .ok (.iload 5, 2) := by decide +kernel
theorem dL_law_559 : decode cL_law 559 = .ok (.if_icmp .eq 5, 3) := by decide +kernel
theorem dL_law_562 : decode cL_law 562 = .ok (.iconst 0, 1) := by decide +kernel
theorem dL_law_563 : decode cL_law 563 = .ok (.ireturn, 1) := by decide +kernel
theorem dL_law_564 : decode cL_law 564 = .ok (.iload 5, 2) := by decide +kernel
theorem dL_law_566 : decode cL_law 566 = .ok (.ifCond .ne 15, 3) := by decide +kernel
theorem dL_law_569 : decode cL_law 569 = .ok (.aload_n 3, 1) := by decide +kernel
theorem dL_law_570 : decode cL_law 570 = .ok (.iconst 0, 1) := by decide +kernel
theorem dL_law_571 : decode cL_law 571 = .ok (.laload, 1) := by decide +kernel
theorem dL_law_572 : decode cL_law 572 = .ok (.iload 6, 2) := by decide +kernel
theorem dL_law_574 : decode cL_law 574 = .ok (.i2l, 1) := by decide +kernel
theorem dL_law_575 : decode cL_law 575 = .ok (.lcmp, 1) := by decide +kernel
theorem dL_law_576 : decode cL_law 576 = .ok (.ifCond .eq 5, 3) := by decide +kernel
theorem dL_law_579 : decode cL_law 579 = .ok (.iconst 0, 1) := by decide +kernel
theorem dL_law_580 : decode cL_law 580 = .ok (.ireturn, 1) := by decide +kernel
theorem dL_law_581 : decode cL_law 581 = .ok (.goto 1632, 3) := by decide +kernel
theorem dL_law_584 : decode cL_law 584 = .ok (.aload_n 1, 1) := by decide +kernel
theorem dL_law_585 : decode cL_law 585 = .ok (.aload_n 0, 1) := by decide +kernel
theorem dL_law_586 : decode cL_law 586 = .ok (.iload 4, 2) := by decide +kernel
theorem dL_law_588 : decode cL_law 588 = .ok (.iconst 1, 1) := by decide +kernel
theorem dL_law_589 : decode cL_law 589 = .ok (.iadd, 1) := by decide +kernel
theorem dL_law_590 : decode cL_law 590 = .ok (.iaload, 1) := by decide +kernel
theorem dL_law_591 : decode cL_law 591 = .ok (.aload_n 3, 1) := by decide +kernel
theorem dL_law_592 : decode cL_law 592 = .ok (.invokestatic 139, 3) := by decide +kernel
theorem dL_law_595 : decode cL_law 595 = .ok (.istore 5, 2) := by decide +kernel
theorem dL_law_597 : decode cL_law 597 = .ok (.aload_n 2, 1) := by decide +kernel
theorem dL_law_598 : decode cL_law 598 = .ok (.aload_n 0, 1) := by decide +kernel
theorem dL_law_599 : decode cL_law 599 = .ok (.iload 4, 2) := by decide +kernel
theorem dL_law_601 : decode cL_law 601 = .ok (.iconst 1, 1) := by decide +kernel
theorem dL_law_602 : decode cL_law 602 = .ok (.iadd, 1) := by decide +kernel
theorem dL_law_603 : decode cL_law 603 = .ok (.iaload, 1) := by decide +kernel
theorem dL_law_604 : decode cL_law 604 = .ok (.invokevirtual 141, 3) := by decide +kernel
theorem dL_law_607 : decode cL_law 607 = .ok (.istore 6, 2) := by decide +kernel
theorem dL_law_609 : decode cL_law 609 = .ok (.aload_n 2, 1) := by decide +kernel
theorem dL_law_610 : decode cL_law 610 = .ok (.invokevirtual 118, 3) := by decide +kernel
theorem dL_law_613 : decode cL_law 613 = .ok (.iload 5, 2) := by decide +kernel
theorem dL_law_615 : decode cL_law 615 = .ok (.if_icmp .eq 5, 3) := by decide +kernel
theorem dL_law_618 : decode cL_law 618 = .ok (.iconst 0, 1) := by decide +kernel
theorem dL_law_619 : decode cL_law 619 = .ok (.ireturn, 1) := by decide +kernel
theorem dL_law_620 : decode cL_law 620 = .ok (.iload 5, 2) := by decide +kernel
theorem dL_law_622 : decode cL_law 622 = .ok (.ifCond .ne 15, 3) := by decide +kernel
theorem dL_law_625 : decode cL_law 625 = .ok (.aload_n 3, 1) := by decide +kernel
theorem dL_law_626 : decode cL_law 626 = .ok (.iconst 0, 1) := by decide +kernel
theorem dL_law_627 : decode cL_law 627 = .ok (.laload, 1) := by decide +kernel
theorem dL_law_628 : decode cL_law 628 = .ok (.iload 6, 2) := by decide +kernel
theorem dL_law_630 : decode cL_law 630 = .ok (.i2l, 1) := by decide +kernel
theorem dL_law_631 : decode cL_law 631 = .ok (.lcmp, 1) := by decide +kernel
theorem dL_law_632 : decode cL_law 632 = .ok (.ifCond .eq 5, 3) := by decide +kernel
theorem dL_law_635 : decode cL_law 635 = .ok (.iconst 0, 1) := by decide +kernel
theorem dL_law_636 : decode cL_law 636 = .ok (.ireturn, 1) := by decide +kernel
theorem dL_law_637 : decode cL_law 637 = .ok (.goto 1576, 3) := by decide +kernel
theorem dL_law_640 : decode cL_law 640 = .ok (.aload_n 1, 1) := by decide +kernel
theorem dL_law_641 : decode cL_law 641 = .ok (.invokevirtual 142, 3) := by decide +kernel
theorem dL_law_644 : decode cL_law 644 = .ok (.aload_n 2, 1) := by decide +kernel
theorem dL_law_645 : decode cL_law 645 = .ok (.invokevirtual 145, 3) := by decide +kernel
theorem dL_law_648 : decode cL_law 648 = .ok (.if_icmp .eq 1565, 3) := by decide +kernel
theorem dL_law_651 : decode cL_law 651 = .ok (.iconst 0, 1) := by decide +kernel
theorem dL_law_652 : decode cL_law 652 = .ok (.ireturn, 1) := by decide +kernel
theorem dL_law_653 : decode cL_law 653 = .ok (.aload_n 1, 1) := by decide +kernel
theorem dL_law_654 : decode cL_law 654 = .ok (.invokevirtual 146, 3) := by decide +kernel
theorem dL_law_657 : decode cL_law 657 = .ok (.aload_n 2, 1) := by decide +kernel
theorem dL_law_658 : decode cL_law 658 = .ok (.invokevirtual 149, 3) := by decide +kernel
theorem dL_law_661 : decode cL_law 661 = .ok (.if_icmp .eq 1552, 3) := by decide +kernel
theorem dL_law_664 : decode cL_law 664 = .ok (.iconst 0, 1) := by decide +kernel
theorem dL_law_665 : decode cL_law 665 = .ok (.ireturn, 1) := by decide +kernel
theorem dL_law_666 : decode cL_law 666 = .ok (.aload_n 1, 1) := by decide +kernel
theorem dL_law_667 : decode cL_law 667 = .ok (.invokevirtual 150, 3) := by decide +kernel
theorem dL_law_670 : decode cL_law 670 = .ok (.aload_n 2, 1) := by decide +kernel
theorem dL_law_671 : decode cL_law 671 = .ok (.invokevirtual 153, 3) := by decide +kernel
theorem dL_law_674 : decode cL_law 674 = .ok (.if_icmp .eq 1539, 3) := by decide +kernel
theorem dL_law_677 : decode cL_law 677 = .ok (.iconst 0, 1) := by decide +kernel
theorem dL_law_678 : decode cL_law 678 = .ok (.ireturn, 1) := by decide +kernel
theorem dL_law_679 : decode cL_law 679 = .ok (.aload_n 1, 1) := by decide +kernel
theorem dL_law_680 : decode cL_law 680 = .ok (.invokevirtual 154, 3) := by decide +kernel
theorem dL_law_683 : decode cL_law 683 = .ok (.aload_n 2, 1) := by decide +kernel
theorem dL_law_684 : decode cL_law 684 = .ok (.invokevirtual 157, 3) := by decide +kernel
theorem dL_law_687 : decode cL_law 687 = .ok (.if_icmp .eq 1526, 3) := by decide +kernel
theorem dL_law_690 : decode cL_law 690 = .ok (.iconst 0, 1) := by decide +kernel
theorem dL_law_691 : decode cL_law 691 = .ok (.ireturn, 1) := by decide +kernel
theorem dL_law_692 : decode cL_law 692 = .ok (.aload_n 1, 1) := by decide +kernel
theorem dL_law_693 : decode cL_law 693 = .ok (.invokevirtual 158, 3) := by decide +kernel
theorem dL_law_696 : decode cL_law 696 = .ok (.aload_n 2, 1) := by decide +kernel
theorem dL_law_697 : decode cL_law 697 = .ok (.invokevirtual 161, 3) := by decide +kernel
theorem dL_law_700 : decode cL_law 700 = .ok (.if_icmp .eq 1513, 3) := by decide +kernel
theorem dL_law_703 : decode cL_law 703 = .ok (.iconst 0, 1) := by decide +kernel
theorem dL_law_704 : decode cL_law 704 = .ok (.ireturn, 1) := by decide +kernel
theorem dL_law_705 : decode cL_law 705 = .ok (.aload_n 1, 1) := by decide +kernel
theorem dL_law_706 : decode cL_law 706 = .ok (.invokevirtual 162, 3) := by decide +kernel
theorem dL_law_709 : decode cL_law 709 = .ok (.aload_n 2, 1) := by decide +kernel
theorem dL_law_710 : decode cL_law 710 = .ok (.invokevirtual 165, 3) := by decide +kernel
theorem dL_law_713 : decode cL_law 713 = .ok (.if_icmp .eq 1500, 3) := by decide +kernel
theorem dL_law_716 : decode cL_law 716 = .ok (.iconst 0, 1) := by decide +kernel
theorem dL_law_717 : decode cL_law 717 = .ok (.ireturn, 1) := by decide +kernel
theorem dL_law_718 : decode cL_law 718 = .ok (.aload_n 1, 1) := by decide +kernel
theorem dL_law_719 : decode cL_law 719 = .ok (.aload_n 0, 1) := by decide +kernel
theorem dL_law_720 : decode cL_law 720 = .ok (.iload 4, 2) := by decide +kernel
theorem dL_law_722 : decode cL_law 722 = .ok (.iconst 1, 1) := by decide +kernel
theorem dL_law_723 : decode cL_law 723 = .ok (.iadd, 1) := by decide +kernel
theorem dL_law_724 : decode cL_law 724 = .ok (.iaload, 1) := by decide +kernel
theorem dL_law_725 : decode cL_law 725 = .ok (.aload_n 3, 1) := by decide +kernel
theorem dL_law_726 : decode cL_law 726 = .ok (.invokestatic 166, 3) := by decide +kernel
theorem dL_law_729 : decode cL_law 729 = .ok (.istore 5, 2) := by decide +kernel
theorem dL_law_731 : decode cL_law 731 = .ok (.aload_n 2, 1) := by decide +kernel
theorem dL_law_732 : decode cL_law 732 = .ok (.aload_n 0, 1) := by decide +kernel
theorem dL_law_733 : decode cL_law 733 = .ok (.iload 4, 2) := by decide +kernel
theorem dL_law_735 : decode cL_law 735 = .ok (.iconst 1, 1) := by decide +kernel
theorem dL_law_736 : decode cL_law 736 = .ok (.iadd, 1) := by decide +kernel
theorem dL_law_737 : decode cL_law 737 = .ok (.iaload, 1) := by decide +kernel
theorem dL_law_738 : decode cL_law 738 = .ok (.invokevirtual 168, 3) := by decide +kernel
theorem dL_law_741 : decode cL_law 741 = .ok (.istore 6, 2) := by decide +kernel
theorem dL_law_743 : decode cL_law 743 = .ok (.aload_n 2, 1) := by decide +kernel
theorem dL_law_744 : decode cL_law 744 = .ok (.invokevirtual 118, 3) := by decide +kernel
theorem dL_law_747 : decode cL_law 747 = .ok (.iload 5, 2) := by decide +kernel
theorem dL_law_749 : decode cL_law 749 = .ok (.if_icmp .eq 5, 3) := by decide +kernel
theorem dL_law_752 : decode cL_law 752 = .ok (.iconst 0, 1) := by decide +kernel
theorem dL_law_753 : decode cL_law 753 = .ok (.ireturn, 1) := by decide +kernel
theorem dL_law_754 : decode cL_law 754 = .ok (.iload 5, 2) := by decide +kernel
theorem dL_law_756 : decode cL_law 756 = .ok (.ifCond .ne 15, 3) := by decide +kernel
theorem dL_law_759 : decode cL_law 759 = .ok (.aload_n 3, 1) := by decide +kernel
theorem dL_law_760 : decode cL_law 760 = .ok (.iconst 0, 1) := by decide +kernel
theorem dL_law_761 : decode cL_law 761 = .ok (.laload, 1) := by decide +kernel
theorem dL_law_762 : decode cL_law 762 = .ok (.iload 6, 2) := by decide +kernel
theorem dL_law_764 : decode cL_law 764 = .ok (.i2l, 1) := by decide +kernel
theorem dL_law_765 : decode cL_law 765 = .ok (.lcmp, 1) := by decide +kernel
theorem dL_law_766 : decode cL_law 766 = .ok (.ifCond .eq 5, 3) := by decide +kernel
theorem dL_law_769 : decode cL_law 769 = .ok (.iconst 0, 1) := by decide +kernel
theorem dL_law_770 : decode cL_law 770 = .ok (.ireturn, 1) := by decide +kernel
theorem dL_law_771 : decode cL_law 771 = .ok (.goto 1442, 3) := by decide +kernel
theorem dL_law_774 : decode cL_law 774 = .ok (.aload_n 1, 1) := by decide +kernel
theorem dL_law_775 : decode cL_law 775 = .ok (.aload_n 0, 1) := by decide +kernel
theorem dL_law_776 : decode cL_law 776 = .ok (.iload 4, 2) := by decide +kernel
theorem dL_law_778 : decode cL_law 778 = .ok (.iconst 1, 1) := by decide +kernel
theorem dL_law_779 : decode cL_law 779 = .ok (.iadd, 1) := by decide +kernel
theorem dL_law_780 : decode cL_law 780 = .ok (.iaload, 1) := by decide +kernel
theorem dL_law_781 : decode cL_law 781 = .ok (.aload_n 3, 1) := by decide +kernel
theorem dL_law_782 : decode cL_law 782 = .ok (.invokestatic 169, 3) := by decide +kernel
theorem dL_law_785 : decode cL_law 785 = .ok (.istore 5, 2) := by decide +kernel
theorem dL_law_787 : decode cL_law 787 = .ok (.aload_n 2, 1) := by decide +kernel
theorem dL_law_788 : decode cL_law 788 = .ok (.aload_n 0, 1) := by decide +kernel
theorem dL_law_789 : decode cL_law 789 = .ok (.iload 4, 2) := by decide +kernel
theorem dL_law_791 : decode cL_law 791 = .ok (.iconst 1, 1) := by decide +kernel
theorem dL_law_792 : decode cL_law 792 = .ok (.iadd, 1) := by decide +kernel
theorem dL_law_793 : decode cL_law 793 = .ok (.iaload, 1) := by decide +kernel
theorem dL_law_794 : decode cL_law 794 = .ok (.invokevirtual 171, 3) := by decide +kernel
theorem dL_law_797 : decode cL_law 797 = .ok (.istore 6, 2) := by decide +kernel
theorem dL_law_799 : decode cL_law 799 = .ok (.aload_n 2, 1) := by decide +kernel
theorem dL_law_800 : decode cL_law 800 = .ok (.invokevirtual 118, 3) := by decide +kernel
theorem dL_law_803 : decode cL_law 803 = .ok (.iload 5, 2) := by decide +kernel
theorem dL_law_805 : decode cL_law 805 = .ok (.if_icmp .eq 5, 3) := by decide +kernel
theorem dL_law_808 : decode cL_law 808 = .ok (.iconst 0, 1) := by decide +kernel
theorem dL_law_809 : decode cL_law 809 = .ok (.ireturn, 1) := by decide +kernel
theorem dL_law_810 : decode cL_law 810 = .ok (.iload 5, 2) := by decide +kernel
theorem dL_law_812 : decode cL_law 812 = .ok (.ifCond .ne 15, 3) := by decide +kernel
theorem dL_law_815 : decode cL_law 815 = .ok (.aload_n 3, 1) := by decide +kernel
theorem dL_law_816 : decode cL_law 816 = .ok (.iconst 0, 1) := by decide +kernel
theorem dL_law_817 : decode cL_law 817 = .ok (.laload, 1) := by decide +kernel
theorem dL_law_818 : decode cL_law 818 = .ok (.iload 6, 2) := by decide +kernel
theorem dL_law_820 : decode cL_law 820 = .ok (.i2l, 1) := by decide +kernel
theorem dL_law_821 : decode cL_law 821 = .ok (.lcmp, 1) := by decide +kernel
theorem dL_law_822 : decode cL_law 822 = .ok (.ifCond .eq 5, 3) := by decide +kernel
theorem dL_law_825 : decode cL_law 825 = .ok (.iconst 0, 1) := by decide +kernel
theorem dL_law_826 : decode cL_law 826 = .ok (.ireturn, 1) := by decide +kernel
theorem dL_law_827 : decode cL_law 827 = .ok (.goto 1386, 3) := by decide +kernel
theorem dL_law_830 : decode cL_law 830 = .ok (.aload_n 1, 1) := by decide +kernel
theorem dL_law_831 : decode cL_law 831 = .ok (.aload_n 0, 1) := by decide +kernel
theorem dL_law_832 : decode cL_law 832 = .ok (.iload 4, 2) := by decide +kernel
theorem dL_law_834 : decode cL_law 834 = .ok (.iconst 1, 1) := by decide +kernel
theorem dL_law_835 : decode cL_law 835 = .ok (.iadd, 1) := by decide +kernel
theorem dL_law_836 : decode cL_law 836 = .ok (.iaload, 1) := by decide +kernel
theorem dL_law_837 : decode cL_law 837 = .ok (.aload_n 3, 1) := by decide +kernel
theorem dL_law_838 : decode cL_law 838 = .ok (.invokestatic 172, 3) := by decide +kernel
theorem dL_law_841 : decode cL_law 841 = .ok (.istore 5, 2) := by decide +kernel
theorem dL_law_843 : decode cL_law 843 = .ok (.aload_n 2, 1) := by decide +kernel
theorem dL_law_844 : decode cL_law 844 = .ok (.aload_n 0, 1) := by decide +kernel
theorem dL_law_845 : decode cL_law 845 = .ok (.iload 4, 2) := by decide +kernel
theorem dL_law_847 : decode cL_law 847 = .ok (.iconst 1, 1) := by decide +kernel
theorem dL_law_848 : decode cL_law 848 = .ok (.iadd, 1) := by decide +kernel
theorem dL_law_849 : decode cL_law 849 = .ok (.iaload, 1) := by decide +kernel
theorem dL_law_850 : decode cL_law 850 = .ok (.invokevirtual 174, 3) := by decide +kernel
theorem dL_law_853 : decode cL_law 853 = .ok (.lstore 6, 2) := by decide +kernel
theorem dL_law_855 : decode cL_law 855 = .ok (.aload_n 2, 1) := by decide +kernel
theorem dL_law_856 : decode cL_law 856 = .ok (.invokevirtual 118, 3) := by decide +kernel
theorem dL_law_859 : decode cL_law 859 = .ok (.iload 5, 2) := by decide +kernel
theorem dL_law_861 : decode cL_law 861 = .ok (.if_icmp .eq 5, 3) := by decide +kernel
theorem dL_law_864 : decode cL_law 864 = .ok (.iconst 0, 1) := by decide +kernel
theorem dL_law_865 : decode cL_law 865 = .ok (.ireturn, 1) := by decide +kernel
theorem dL_law_866 : decode cL_law 866 = .ok (.iload 5, 2) := by decide +kernel
theorem dL_law_868 : decode cL_law 868 = .ok (.ifCond .ne 14, 3) := by decide +kernel
theorem dL_law_871 : decode cL_law 871 = .ok (.aload_n 3, 1) := by decide +kernel
theorem dL_law_872 : decode cL_law 872 = .ok (.iconst 0, 1) := by decide +kernel
theorem dL_law_873 : decode cL_law 873 = .ok (.laload, 1) := by decide +kernel
theorem dL_law_874 : decode cL_law 874 = .ok (.lload 6, 2) := by decide +kernel
theorem dL_law_876 : decode cL_law 876 = .ok (.lcmp, 1) := by decide +kernel
theorem dL_law_877 : decode cL_law 877 = .ok (.ifCond .eq 5, 3) := by decide +kernel
theorem dL_law_880 : decode cL_law 880 = .ok (.iconst 0, 1) := by decide +kernel
theorem dL_law_881 : decode cL_law 881 = .ok (.ireturn, 1) := by decide +kernel
theorem dL_law_882 : decode cL_law 882 = .ok (.goto 1331, 3) := by decide +kernel
theorem dL_law_885 : decode cL_law 885 = .ok (.aload_n 1, 1) := by decide +kernel
theorem dL_law_886 : decode cL_law 886 = .ok (.aload_n 0, 1) := by decide +kernel
theorem dL_law_887 : decode cL_law 887 = .ok (.iload 4, 2) := by decide +kernel
theorem dL_law_889 : decode cL_law 889 = .ok (.iconst 1, 1) := by decide +kernel
theorem dL_law_890 : decode cL_law 890 = .ok (.iadd, 1) := by decide +kernel
theorem dL_law_891 : decode cL_law 891 = .ok (.iaload, 1) := by decide +kernel
theorem dL_law_892 : decode cL_law 892 = .ok (.aload_n 3, 1) := by decide +kernel
theorem dL_law_893 : decode cL_law 893 = .ok (.invokestatic 175, 3) := by decide +kernel
theorem dL_law_896 : decode cL_law 896 = .ok (.istore 5, 2) := by decide +kernel
theorem dL_law_898 : decode cL_law 898 = .ok (.aload_n 2, 1) := by decide +kernel
theorem dL_law_899 : decode cL_law 899 = .ok (.aload_n 0, 1) := by decide +kernel
theorem dL_law_900 : decode cL_law 900 = .ok (.iload 4, 2) := by decide +kernel
theorem dL_law_902 : decode cL_law 902 = .ok (.iconst 1, 1) := by decide +kernel
theorem dL_law_903 : decode cL_law 903 = .ok (.iadd, 1) := by decide +kernel
theorem dL_law_904 : decode cL_law 904 = .ok (.iaload, 1) := by decide +kernel
theorem dL_law_905 : decode cL_law 905 = .ok (.invokevirtual 177, 3) := by decide +kernel
theorem dL_law_908 : decode cL_law 908 = .ok (.lstore 6, 2) := by decide +kernel
theorem dL_law_910 : decode cL_law 910 = .ok (.aload_n 2, 1) := by decide +kernel
theorem dL_law_911 : decode cL_law 911 = .ok (.invokevirtual 118, 3) := by decide +kernel
theorem dL_law_914 : decode cL_law 914 = .ok (.iload 5, 2) := by decide +kernel
theorem dL_law_916 : decode cL_law 916 = .ok (.if_icmp .eq 5, 3) := by decide +kernel
theorem dL_law_919 : decode cL_law 919 = .ok (.iconst 0, 1) := by decide +kernel
theorem dL_law_920 : decode cL_law 920 = .ok (.ireturn, 1) := by decide +kernel
theorem dL_law_921 : decode cL_law 921 = .ok (.iload 5, 2) := by decide +kernel
theorem dL_law_923 : decode cL_law 923 = .ok (.ifCond .ne 14, 3) := by decide +kernel
theorem dL_law_926 : decode cL_law 926 = .ok (.aload_n 3, 1) := by decide +kernel
theorem dL_law_927 : decode cL_law 927 = .ok (.iconst 0, 1) := by decide +kernel
theorem dL_law_928 : decode cL_law 928 = .ok (.laload, 1) := by decide +kernel
theorem dL_law_929 : decode cL_law 929 = .ok (.lload 6, 2) := by decide +kernel
theorem dL_law_931 : decode cL_law 931 = .ok (.lcmp, 1) := by decide +kernel
theorem dL_law_932 : decode cL_law 932 = .ok (.ifCond .eq 5, 3) := by decide +kernel
theorem dL_law_935 : decode cL_law 935 = .ok (.iconst 0, 1) := by decide +kernel
theorem dL_law_936 : decode cL_law 936 = .ok (.ireturn, 1) := by decide +kernel
theorem dL_law_937 : decode cL_law 937 = .ok (.goto 1276, 3) := by decide +kernel
theorem dL_law_940 : decode cL_law 940 = .ok (.aload_n 1, 1) := by decide +kernel
theorem dL_law_941 : decode cL_law 941 = .ok (.aload_n 0, 1) := by decide +kernel
theorem dL_law_942 : decode cL_law 942 = .ok (.iload 4, 2) := by decide +kernel
theorem dL_law_944 : decode cL_law 944 = .ok (.iconst 1, 1) := by decide +kernel
theorem dL_law_945 : decode cL_law 945 = .ok (.iadd, 1) := by decide +kernel
theorem dL_law_946 : decode cL_law 946 = .ok (.iaload, 1) := by decide +kernel
theorem dL_law_947 : decode cL_law 947 = .ok (.aload_n 0, 1) := by decide +kernel
theorem dL_law_948 : decode cL_law 948 = .ok (.iload 4, 2) := by decide +kernel
theorem dL_law_950 : decode cL_law 950 = .ok (.iconst 2, 1) := by decide +kernel
theorem dL_law_951 : decode cL_law 951 = .ok (.iadd, 1) := by decide +kernel
theorem dL_law_952 : decode cL_law 952 = .ok (.iaload, 1) := by decide +kernel
theorem dL_law_953 : decode cL_law 953 = .ok (.aload_n 3, 1) := by decide +kernel
theorem dL_law_954 : decode cL_law 954 = .ok (.invokestatic 178, 3) := by decide +kernel
theorem dL_law_957 : decode cL_law 957 = .ok (.istore 5, 2) := by decide +kernel
theorem dL_law_959 : decode cL_law 959 = .ok (.aload_n 2, 1) := by decide +kernel
theorem dL_law_960 : decode cL_law 960 = .ok (.aload_n 0, 1) := by decide +kernel
theorem dL_law_961 : decode cL_law 961 = .ok (.iload 4, 2) := by decide +kernel
theorem dL_law_963 : decode cL_law 963 = .ok (.iconst 1, 1) := by decide +kernel
theorem dL_law_964 : decode cL_law 964 = .ok (.iadd, 1) := by decide +kernel
theorem dL_law_965 : decode cL_law 965 = .ok (.iaload, 1) := by decide +kernel
theorem dL_law_966 : decode cL_law 966 = .ok (.aload_n 0, 1) := by decide +kernel
theorem dL_law_967 : decode cL_law 967 = .ok (.iload 4, 2) := by decide +kernel
theorem dL_law_969 : decode cL_law 969 = .ok (.iconst 2, 1) := by decide +kernel
theorem dL_law_970 : decode cL_law 970 = .ok (.iadd, 1) := by decide +kernel
theorem dL_law_971 : decode cL_law 971 = .ok (.iaload, 1) := by decide +kernel
theorem dL_law_972 : decode cL_law 972 = .ok (.invokevirtual 180, 3) := by decide +kernel
theorem dL_law_975 : decode cL_law 975 = .ok (.istore 6, 2) := by decide +kernel
theorem dL_law_977 : decode cL_law 977 = .ok (.aload_n 2, 1) := by decide +kernel
theorem dL_law_978 : decode cL_law 978 = .ok (.invokevirtual 118, 3) := by decide +kernel
theorem dL_law_981 : decode cL_law 981 = .ok (.iload 5, 2) := by decide +kernel
theorem dL_law_983 : decode cL_law 983 = .ok (.if_icmp .eq 5, 3) := by decide +kernel
theorem dL_law_986 : decode cL_law 986 = .ok (.iconst 0, 1) := by decide +kernel
theorem dL_law_987 : decode cL_law 987 = .ok (.ireturn, 1) := by decide +kernel
theorem dL_law_988 : decode cL_law 988 = .ok (.iload 5, 2) := by decide +kernel
theorem dL_law_990 : decode cL_law 990 = .ok (.ifCond .ne 22, 3) := by decide +kernel
theorem dL_law_993 : decode cL_law 993 = .ok (.aload_n 3, 1) := by decide +kernel
theorem dL_law_994 : decode cL_law 994 = .ok (.iconst 0, 1) := by decide +kernel
theorem dL_law_995 : decode cL_law 995 = .ok (.laload, 1) := by decide +kernel
theorem dL_law_996 : decode cL_law 996 = .ok (.iload 6, 2) := by decide +kernel
theorem dL_law_998 : decode cL_law 998 = .ok (.ifCond .eq 7, 3) := by decide +kernel
theorem dL_law_1001 : decode cL_law 1001 = .ok (.lconst 1, 1) := by decide +kernel
theorem dL_law_1002 : decode cL_law 1002 = .ok (.goto 4, 3) := by decide +kernel
theorem dL_law_1005 : decode cL_law 1005 = .ok (.lconst 0, 1) := by decide +kernel
theorem dL_law_1006 : decode cL_law 1006 = .ok (.lcmp, 1) := by decide +kernel
theorem dL_law_1007 : decode cL_law 1007 = .ok (.ifCond .eq 5, 3) := by decide +kernel
theorem dL_law_1010 : decode cL_law 1010 = .ok (.iconst 0, 1) := by decide +kernel
theorem dL_law_1011 : decode cL_law 1011 = .ok (.ireturn, 1) := by decide +kernel
theorem dL_law_1012 : decode cL_law 1012 = .ok (.goto 1201, 3) := by decide +kernel
theorem dL_law_1015 : decode cL_law 1015 = .ok (.aload_n 1, 1) := by decide +kernel
theorem dL_law_1016 : decode cL_law 1016 = .ok (.invokevirtual 181, 3) := by decide +kernel
theorem dL_law_1019 : decode cL_law 1019 = .ok (.aload_n 2, 1) := by decide +kernel
theorem dL_law_1020 : decode cL_law 1020 = .ok (.invokevirtual 184, 3) := by decide +kernel
theorem dL_law_1023 : decode cL_law 1023 = .ok (.if_icmp .eq 1190, 3) := by decide +kernel
theorem dL_law_1026 : decode cL_law 1026 = .ok (.iconst 0, 1) := by decide +kernel
theorem dL_law_1027 : decode cL_law 1027 = .ok (.ireturn, 1) := by decide +kernel
theorem dL_law_1028 : decode cL_law 1028 = .ok (.aload_n 1, 1) := by decide +kernel
theorem dL_law_1029 : decode cL_law 1029 = .ok (.invokevirtual 185, 3) := by decide +kernel
theorem dL_law_1032 : decode cL_law 1032 = .ok (.aload_n 2, 1) := by decide +kernel
theorem dL_law_1033 : decode cL_law 1033 = .ok (.invokevirtual 188, 3) := by decide +kernel
theorem dL_law_1036 : decode cL_law 1036 = .ok (.if_icmp .eq 1177, 3) := by decide +kernel
theorem dL_law_1039 : decode cL_law 1039 = .ok (.iconst 0, 1) := by decide +kernel
theorem dL_law_1040 : decode cL_law 1040 = .ok (.ireturn, 1) := by decide +kernel
theorem dL_law_1041 : decode cL_law 1041 = .ok (.aload_n 1, 1) := by decide +kernel
theorem dL_law_1042 : decode cL_law 1042 = .ok (.aload_n 0, 1) := by decide +kernel
theorem dL_law_1043 : decode cL_law 1043 = .ok (.iload 4, 2) := by decide +kernel
theorem dL_law_1045 : decode cL_law 1045 = .ok (.iconst 1, 1) := by decide +kernel
theorem dL_law_1046 : decode cL_law 1046 = .ok (.iadd, 1) := by decide +kernel
theorem dL_law_1047 : decode cL_law 1047 = .ok (.iaload, 1) := by decide +kernel
theorem dL_law_1048 : decode cL_law 1048 = .ok (.aload_n 0, 1) := by decide +kernel
theorem dL_law_1049 : decode cL_law 1049 = .ok (.iload 4, 2) := by decide +kernel
theorem dL_law_1051 : decode cL_law 1051 = .ok (.iconst 2, 1) := by decide +kernel
theorem dL_law_1052 : decode cL_law 1052 = .ok (.iadd, 1) := by decide +kernel
theorem dL_law_1053 : decode cL_law 1053 = .ok (.iaload, 1) := by decide +kernel
theorem dL_law_1054 : decode cL_law 1054 = .ok (.aload_n 3, 1) := by decide +kernel
theorem dL_law_1055 : decode cL_law 1055 = .ok (.invokestatic 189, 3) := by decide +kernel
theorem dL_law_1058 : decode cL_law 1058 = .ok (.istore 5, 2) := by decide +kernel
theorem dL_law_1060 : decode cL_law 1060 = .ok (.aload_n 2, 1) := by decide +kernel
theorem dL_law_1061 : decode cL_law 1061 = .ok (.aload_n 0, 1) := by decide +kernel
theorem dL_law_1062 : decode cL_law 1062 = .ok (.iload 4, 2) := by decide +kernel
theorem dL_law_1064 : decode cL_law 1064 = .ok (.iconst 1, 1) := by decide +kernel
theorem dL_law_1065 : decode cL_law 1065 = .ok (.iadd, 1) := by decide +kernel
theorem dL_law_1066 : decode cL_law 1066 = .ok (.iaload, 1) := by decide +kernel
theorem dL_law_1067 : decode cL_law 1067 = .ok (.aload_n 0, 1) := by decide +kernel
theorem dL_law_1068 : decode cL_law 1068 = .ok (.iload 4, 2) := by decide +kernel
theorem dL_law_1070 : decode cL_law 1070 = .ok (.iconst 2, 1) := by decide +kernel
theorem dL_law_1071 : decode cL_law 1071 = .ok (.iadd, 1) := by decide +kernel
theorem dL_law_1072 : decode cL_law 1072 = .ok (.iaload, 1) := by decide +kernel
theorem dL_law_1073 : decode cL_law 1073 = .ok (.invokevirtual 191, 3) := by decide +kernel
theorem dL_law_1076 : decode cL_law 1076 = .ok (.lstore 6, 2) := by decide +kernel
theorem dL_law_1078 : decode cL_law 1078 = .ok (.aload_n 2, 1) := by decide +kernel
theorem dL_law_1079 : decode cL_law 1079 = .ok (.invokevirtual 118, 3) := by decide +kernel
theorem dL_law_1082 : decode cL_law 1082 = .ok (.iload 5, 2) := by decide +kernel
theorem dL_law_1084 : decode cL_law 1084 = .ok (.if_icmp .eq 5, 3) := by decide +kernel
theorem dL_law_1087 : decode cL_law 1087 = .ok (.iconst 0, 1) := by decide +kernel
theorem dL_law_1088 : decode cL_law 1088 = .ok (.ireturn, 1) := by decide +kernel
theorem dL_law_1089 : decode cL_law 1089 = .ok (.iload 5, 2) := by decide +kernel
theorem dL_law_1091 : decode cL_law 1091 = .ok (.ifCond .ne 14, 3) := by decide +kernel
theorem dL_law_1094 : decode cL_law 1094 = .ok (.aload_n 3, 1) := by decide +kernel
theorem dL_law_1095 : decode cL_law 1095 = .ok (.iconst 0, 1) := by decide +kernel
theorem dL_law_1096 : decode cL_law 1096 = .ok (.laload, 1) := by decide +kernel
theorem dL_law_1097 : decode cL_law 1097 = .ok (.lload 6, 2) := by decide +kernel
theorem dL_law_1099 : decode cL_law 1099 = .ok (.lcmp, 1) := by decide +kernel
theorem dL_law_1100 : decode cL_law 1100 = .ok (.ifCond .eq 5, 3) := by decide +kernel
theorem dL_law_1103 : decode cL_law 1103 = .ok (.iconst 0, 1) := by decide +kernel
theorem dL_law_1104 : decode cL_law 1104 = .ok (.ireturn, 1) := by decide +kernel
theorem dL_law_1105 : decode cL_law 1105 = .ok (.goto 1108, 3) := by decide +kernel
theorem dL_law_1108 : decode cL_law 1108 = .ok (.aload_n 1, 1) := by decide +kernel
theorem dL_law_1109 : decode cL_law 1109 = .ok (.aload_n 0, 1) := by decide +kernel
theorem dL_law_1110 : decode cL_law 1110 = .ok (.iload 4, 2) := by decide +kernel
theorem dL_law_1112 : decode cL_law 1112 = .ok (.iconst 1, 1) := by decide +kernel
theorem dL_law_1113 : decode cL_law 1113 = .ok (.iadd, 1) := by decide +kernel
theorem dL_law_1114 : decode cL_law 1114 = .ok (.iaload, 1) := by decide +kernel
theorem dL_law_1115 : decode cL_law 1115 = .ok (.aload_n 0, 1) := by decide +kernel
theorem dL_law_1116 : decode cL_law 1116 = .ok (.iload 4, 2) := by decide +kernel
theorem dL_law_1118 : decode cL_law 1118 = .ok (.iconst 2, 1) := by decide +kernel
theorem dL_law_1119 : decode cL_law 1119 = .ok (.iadd, 1) := by decide +kernel
theorem dL_law_1120 : decode cL_law 1120 = .ok (.iaload, 1) := by decide +kernel
theorem dL_law_1121 : decode cL_law 1121 = .ok (.aload_n 0, 1) := by decide +kernel
theorem dL_law_1122 : decode cL_law 1122 = .ok (.iload 4, 2) := by decide +kernel
theorem dL_law_1124 : decode cL_law 1124 = .ok (.iconst 3, 1) := by decide +kernel
theorem dL_law_1125 : decode cL_law 1125 = .ok (.iadd, 1) := by decide +kernel
theorem dL_law_1126 : decode cL_law 1126 = .ok (.iaload, 1) := by decide +kernel
theorem dL_law_1127 : decode cL_law 1127 = .ok (.aload_n 3, 1) := by decide +kernel
theorem dL_law_1128 : decode cL_law 1128 = .ok (.invokestatic 192, 3) := by decide +kernel
theorem dL_law_1131 : decode cL_law 1131 = .ok (.istore 5, 2) := by decide +kernel
theorem dL_law_1133 : decode cL_law 1133 = .ok (.aload_n 2, 1) := by decide +kernel
theorem dL_law_1134 : decode cL_law 1134 = .ok (.aload_n 0, 1) := by decide +kernel
theorem dL_law_1135 : decode cL_law 1135 = .ok (.iload 4, 2) := by decide +kernel
theorem dL_law_1137 : decode cL_law 1137 = .ok (.iconst 1, 1) := by decide +kernel
theorem dL_law_1138 : decode cL_law 1138 = .ok (.iadd, 1) := by decide +kernel
theorem dL_law_1139 : decode cL_law 1139 = .ok (.iaload, 1) := by decide +kernel
theorem dL_law_1140 : decode cL_law 1140 = .ok (.aload_n 0, 1) := by decide +kernel
theorem dL_law_1141 : decode cL_law 1141 = .ok (.iload 4, 2) := by decide +kernel
theorem dL_law_1143 : decode cL_law 1143 = .ok (.iconst 2, 1) := by decide +kernel
theorem dL_law_1144 : decode cL_law 1144 = .ok (.iadd, 1) := by decide +kernel
theorem dL_law_1145 : decode cL_law 1145 = .ok (.iaload, 1) := by decide +kernel
theorem dL_law_1146 : decode cL_law 1146 = .ok (.aload_n 0, 1) := by decide +kernel
theorem dL_law_1147 : decode cL_law 1147 = .ok (.iload 4, 2) := by decide +kernel
theorem dL_law_1149 : decode cL_law 1149 = .ok (.iconst 3, 1) := by decide +kernel
theorem dL_law_1150 : decode cL_law 1150 = .ok (.iadd, 1) := by decide +kernel
theorem dL_law_1151 : decode cL_law 1151 = .ok (.iaload, 1) := by decide +kernel
theorem dL_law_1152 : decode cL_law 1152 = .ok (.invokevirtual 194, 3) := by decide +kernel
theorem dL_law_1155 : decode cL_law 1155 = .ok (.lstore 6, 2) := by decide +kernel
theorem dL_law_1157 : decode cL_law 1157 = .ok (.aload_n 2, 1) := by decide +kernel
theorem dL_law_1158 : decode cL_law 1158 = .ok (.invokevirtual 118, 3) := by decide +kernel
theorem dL_law_1161 : decode cL_law 1161 = .ok (.iload 5, 2) := by decide +kernel
theorem dL_law_1163 : decode cL_law 1163 = .ok (.if_icmp .eq 5, 3) := by decide +kernel
theorem dL_law_1166 : decode cL_law 1166 = .ok (.iconst 0, 1) := by decide +kernel
theorem dL_law_1167 : decode cL_law 1167 = .ok (.ireturn, 1) := by decide +kernel
theorem dL_law_1168 : decode cL_law 1168 = .ok (.iload 5, 2) := by decide +kernel
theorem dL_law_1170 : decode cL_law 1170 = .ok (.ifCond .ne 14, 3) := by decide +kernel
theorem dL_law_1173 : decode cL_law 1173 = .ok (.aload_n 3, 1) := by decide +kernel
theorem dL_law_1174 : decode cL_law 1174 = .ok (.iconst 0, 1) := by decide +kernel
theorem dL_law_1175 : decode cL_law 1175 = .ok (.laload, 1) := by decide +kernel
theorem dL_law_1176 : decode cL_law 1176 = .ok (.lload 6, 2) := by decide +kernel
theorem dL_law_1178 : decode cL_law 1178 = .ok (.lcmp, 1) := by decide +kernel
theorem dL_law_1179 : decode cL_law 1179 = .ok (.ifCond .eq 5, 3) := by decide +kernel
theorem dL_law_1182 : decode cL_law 1182 = .ok (.iconst 0, 1) := by decide +kernel
theorem dL_law_1183 : decode cL_law 1183 = .ok (.ireturn, 1) := by decide +kernel
theorem dL_law_1184 : decode cL_law 1184 = .ok (.goto 1029, 3) := by decide +kernel
theorem dL_law_1187 : decode cL_law 1187 = .ok (.aload_n 1, 1) := by decide +kernel
theorem dL_law_1188 : decode cL_law 1188 = .ok (.aload_n 0, 1) := by decide +kernel
theorem dL_law_1189 : decode cL_law 1189 = .ok (.iload 4, 2) := by decide +kernel
theorem dL_law_1191 : decode cL_law 1191 = .ok (.iconst 1, 1) := by decide +kernel
theorem dL_law_1192 : decode cL_law 1192 = .ok (.iadd, 1) := by decide +kernel
theorem dL_law_1193 : decode cL_law 1193 = .ok (.iaload, 1) := by decide +kernel
theorem dL_law_1194 : decode cL_law 1194 = .ok (.aload_n 0, 1) := by decide +kernel
theorem dL_law_1195 : decode cL_law 1195 = .ok (.iload 4, 2) := by decide +kernel
theorem dL_law_1197 : decode cL_law 1197 = .ok (.iconst 2, 1) := by decide +kernel
theorem dL_law_1198 : decode cL_law 1198 = .ok (.iadd, 1) := by decide +kernel
theorem dL_law_1199 : decode cL_law 1199 = .ok (.iaload, 1) := by decide +kernel
theorem dL_law_1200 : decode cL_law 1200 = .ok (.aload_n 0, 1) := by decide +kernel
theorem dL_law_1201 : decode cL_law 1201 = .ok (.iload 4, 2) := by decide +kernel
theorem dL_law_1203 : decode cL_law 1203 = .ok (.iconst 3, 1) := by decide +kernel
theorem dL_law_1204 : decode cL_law 1204 = .ok (.iadd, 1) := by decide +kernel
theorem dL_law_1205 : decode cL_law 1205 = .ok (.iaload, 1) := by decide +kernel
theorem dL_law_1206 : decode cL_law 1206 = .ok (.aload_n 3, 1) := by decide +kernel
theorem dL_law_1207 : decode cL_law 1207 = .ok (.invokestatic 195, 3) := by decide +kernel
theorem dL_law_1210 : decode cL_law 1210 = .ok (.istore 5, 2) := by decide +kernel
theorem dL_law_1212 : decode cL_law 1212 = .ok (.aload_n 2, 1) := by decide +kernel
theorem dL_law_1213 : decode cL_law 1213 = .ok (.aload_n 0, 1) := by decide +kernel
theorem dL_law_1214 : decode cL_law 1214 = .ok (.iload 4, 2) := by decide +kernel
theorem dL_law_1216 : decode cL_law 1216 = .ok (.iconst 1, 1) := by decide +kernel
theorem dL_law_1217 : decode cL_law 1217 = .ok (.iadd, 1) := by decide +kernel
theorem dL_law_1218 : decode cL_law 1218 = .ok (.iaload, 1) := by decide +kernel
theorem dL_law_1219 : decode cL_law 1219 = .ok (.aload_n 0, 1) := by decide +kernel
theorem dL_law_1220 : decode cL_law 1220 = .ok (.iload 4, 2) := by decide +kernel
theorem dL_law_1222 : decode cL_law 1222 = .ok (.iconst 2, 1) := by decide +kernel
theorem dL_law_1223 : decode cL_law 1223 = .ok (.iadd, 1) := by decide +kernel
theorem dL_law_1224 : decode cL_law 1224 = .ok (.iaload, 1) := by decide +kernel
theorem dL_law_1225 : decode cL_law 1225 = .ok (.aload_n 0, 1) := by decide +kernel
theorem dL_law_1226 : decode cL_law 1226 = .ok (.iload 4, 2) := by decide +kernel
theorem dL_law_1228 : decode cL_law 1228 = .ok (.iconst 3, 1) := by decide +kernel
theorem dL_law_1229 : decode cL_law 1229 = .ok (.iadd, 1) := by decide +kernel
theorem dL_law_1230 : decode cL_law 1230 = .ok (.iaload, 1) := by decide +kernel
theorem dL_law_1231 : decode cL_law 1231 = .ok (.invokevirtual 197, 3) := by decide +kernel
theorem dL_law_1234 : decode cL_law 1234 = .ok (.istore 6, 2) := by decide +kernel
theorem dL_law_1236 : decode cL_law 1236 = .ok (.aload_n 2, 1) := by decide +kernel
theorem dL_law_1237 : decode cL_law 1237 = .ok (.invokevirtual 118, 3) := by decide +kernel
theorem dL_law_1240 : decode cL_law 1240 = .ok (.iload 5, 2) := by decide +kernel
theorem dL_law_1242 : decode cL_law 1242 = .ok (.if_icmp .eq 5, 3) := by decide +kernel
theorem dL_law_1245 : decode cL_law 1245 = .ok (.iconst 0, 1) := by decide +kernel
theorem dL_law_1246 : decode cL_law 1246 = .ok (.ireturn, 1) := by decide +kernel
theorem dL_law_1247 : decode cL_law 1247 = .ok (.iload 5, 2) := by decide +kernel
theorem dL_law_1249 : decode cL_law 1249 = .ok (.ifCond .ne 22, 3) := by decide +kernel
theorem dL_law_1252 : decode cL_law 1252 = .ok (.aload_n 3, 1) := by decide +kernel
theorem dL_law_1253 : decode cL_law 1253 = .ok (.iconst 0, 1) := by decide +kernel
theorem dL_law_1254 : decode cL_law 1254 = .ok (.laload, 1) := by decide +kernel
theorem dL_law_1255 : decode cL_law 1255 = .ok (.iload 6, 2) := by decide +kernel
theorem dL_law_1257 : decode cL_law 1257 = .ok (.ifCond .eq 7, 3) := by decide +kernel
theorem dL_law_1260 : decode cL_law 1260 = .ok (.lconst 1, 1) := by decide +kernel
theorem dL_law_1261 : decode cL_law 1261 = .ok (.goto 4, 3) := by decide +kernel
theorem dL_law_1264 : decode cL_law 1264 = .ok (.lconst 0, 1) := by decide +kernel
theorem dL_law_1265 : decode cL_law 1265 = .ok (.lcmp, 1) := by decide +kernel
theorem dL_law_1266 : decode cL_law 1266 = .ok (.ifCond .eq 5, 3) := by decide +kernel
theorem dL_law_1269 : decode cL_law 1269 = .ok (.iconst 0, 1) := by decide +kernel
theorem dL_law_1270 : decode cL_law 1270 = .ok (.ireturn, 1) := by decide +kernel
theorem dL_law_1271 : decode cL_law 1271 = .ok (.goto 942, 3) := by decide +kernel
theorem dL_law_1274 : decode cL_law 1274 = .ok (.aload_n 1, 1) := by decide +kernel
theorem dL_law_1275 : decode cL_law 1275 = .ok (.aload_n 0, 1) := by decide +kernel
theorem dL_law_1276 : decode cL_law 1276 = .ok (.iload 4, 2) := by decide +kernel
theorem dL_law_1278 : decode cL_law 1278 = .ok (.iconst 1, 1) := by decide +kernel
theorem dL_law_1279 : decode cL_law 1279 = .ok (.iadd, 1) := by decide +kernel
theorem dL_law_1280 : decode cL_law 1280 = .ok (.iaload, 1) := by decide +kernel
theorem dL_law_1281 : decode cL_law 1281 = .ok (.aload_n 0, 1) := by decide +kernel
theorem dL_law_1282 : decode cL_law 1282 = .ok (.iload 4, 2) := by decide +kernel
theorem dL_law_1284 : decode cL_law 1284 = .ok (.iconst 2, 1) := by decide +kernel
theorem dL_law_1285 : decode cL_law 1285 = .ok (.iadd, 1) := by decide +kernel
theorem dL_law_1286 : decode cL_law 1286 = .ok (.iaload, 1) := by decide +kernel
theorem dL_law_1287 : decode cL_law 1287 = .ok (.aload_n 0, 1) := by decide +kernel
theorem dL_law_1288 : decode cL_law 1288 = .ok (.iload 4, 2) := by decide +kernel
theorem dL_law_1290 : decode cL_law 1290 = .ok (.iconst 3, 1) := by decide +kernel
theorem dL_law_1291 : decode cL_law 1291 = .ok (.iadd, 1) := by decide +kernel
theorem dL_law_1292 : decode cL_law 1292 = .ok (.iaload, 1) := by decide +kernel
theorem dL_law_1293 : decode cL_law 1293 = .ok (.aload_n 3, 1) := by decide +kernel
theorem dL_law_1294 : decode cL_law 1294 = .ok (.invokestatic 198, 3) := by decide +kernel
theorem dL_law_1297 : decode cL_law 1297 = .ok (.istore 5, 2) := by decide +kernel
theorem dL_law_1299 : decode cL_law 1299 = .ok (.aload_n 2, 1) := by decide +kernel
theorem dL_law_1300 : decode cL_law 1300 = .ok (.aload_n 0, 1) := by decide +kernel
theorem dL_law_1301 : decode cL_law 1301 = .ok (.iload 4, 2) := by decide +kernel
theorem dL_law_1303 : decode cL_law 1303 = .ok (.iconst 1, 1) := by decide +kernel
theorem dL_law_1304 : decode cL_law 1304 = .ok (.iadd, 1) := by decide +kernel
theorem dL_law_1305 : decode cL_law 1305 = .ok (.iaload, 1) := by decide +kernel
theorem dL_law_1306 : decode cL_law 1306 = .ok (.aload_n 0, 1) := by decide +kernel
theorem dL_law_1307 : decode cL_law 1307 = .ok (.iload 4, 2) := by decide +kernel
theorem dL_law_1309 : decode cL_law 1309 = .ok (.iconst 2, 1) := by decide +kernel
theorem dL_law_1310 : decode cL_law 1310 = .ok (.iadd, 1) := by decide +kernel
theorem dL_law_1311 : decode cL_law 1311 = .ok (.iaload, 1) := by decide +kernel
theorem dL_law_1312 : decode cL_law 1312 = .ok (.aload_n 0, 1) := by decide +kernel
theorem dL_law_1313 : decode cL_law 1313 = .ok (.iload 4, 2) := by decide +kernel
theorem dL_law_1315 : decode cL_law 1315 = .ok (.iconst 3, 1) := by decide +kernel
theorem dL_law_1316 : decode cL_law 1316 = .ok (.iadd, 1) := by decide +kernel
theorem dL_law_1317 : decode cL_law 1317 = .ok (.iaload, 1) := by decide +kernel
theorem dL_law_1318 : decode cL_law 1318 = .ok (.invokevirtual 200, 3) := by decide +kernel
theorem dL_law_1321 : decode cL_law 1321 = .ok (.lstore 6, 2) := by decide +kernel
theorem dL_law_1323 : decode cL_law 1323 = .ok (.aload_n 2, 1) := by decide +kernel
theorem dL_law_1324 : decode cL_law 1324 = .ok (.invokevirtual 118, 3) := by decide +kernel
theorem dL_law_1327 : decode cL_law 1327 = .ok (.iload 5, 2) := by decide +kernel
theorem dL_law_1329 : decode cL_law 1329 = .ok (.if_icmp .eq 5, 3) := by decide +kernel
theorem dL_law_1332 : decode cL_law 1332 = .ok (.iconst 0, 1) := by decide +kernel
theorem dL_law_1333 : decode cL_law 1333 = .ok (.ireturn, 1) := by decide +kernel
theorem dL_law_1334 : decode cL_law 1334 = .ok (.iload 5, 2) := by decide +kernel
theorem dL_law_1336 : decode cL_law 1336 = .ok (.ifCond .ne 14, 3) := by decide +kernel
theorem dL_law_1339 : decode cL_law 1339 = .ok (.aload_n 3, 1) := by decide +kernel
theorem dL_law_1340 : decode cL_law 1340 = .ok (.iconst 0, 1) := by decide +kernel
theorem dL_law_1341 : decode cL_law 1341 = .ok (.laload, 1) := by decide +kernel
theorem dL_law_1342 : decode cL_law 1342 = .ok (.lload 6, 2) := by decide +kernel
theorem dL_law_1344 : decode cL_law 1344 = .ok (.lcmp, 1) := by decide +kernel
theorem dL_law_1345 : decode cL_law 1345 = .ok (.ifCond .eq 5, 3) := by decide +kernel
theorem dL_law_1348 : decode cL_law 1348 = .ok (.iconst 0, 1) := by decide +kernel
theorem dL_law_1349 : decode cL_law 1349 = .ok (.ireturn, 1) := by decide +kernel
theorem dL_law_1350 : decode cL_law 1350 = .ok (.goto 863, 3) := by decide +kernel
theorem dL_law_1353 : decode cL_law 1353 = .ok (.aload_n 1, 1) := by decide +kernel
theorem dL_law_1354 : decode cL_law 1354 = .ok (.aload_n 0, 1) := by decide +kernel
theorem dL_law_1355 : decode cL_law 1355 = .ok (.iload 4, 2) := by decide +kernel
theorem dL_law_1357 : decode cL_law 1357 = .ok (.iconst 1, 1) := by decide +kernel
theorem dL_law_1358 : decode cL_law 1358 = .ok (.iadd, 1) := by decide +kernel
theorem dL_law_1359 : decode cL_law 1359 = .ok (.iaload, 1) := by decide +kernel
theorem dL_law_1360 : decode cL_law 1360 = .ok (.aload_n 0, 1) := by decide +kernel
theorem dL_law_1361 : decode cL_law 1361 = .ok (.iload 4, 2) := by decide +kernel
theorem dL_law_1363 : decode cL_law 1363 = .ok (.iconst 2, 1) := by decide +kernel
theorem dL_law_1364 : decode cL_law 1364 = .ok (.iadd, 1) := by decide +kernel
theorem dL_law_1365 : decode cL_law 1365 = .ok (.iaload, 1) := by decide +kernel
theorem dL_law_1366 : decode cL_law 1366 = .ok (.aload_n 3, 1) := by decide +kernel
theorem dL_law_1367 : decode cL_law 1367 = .ok (.invokestatic 201, 3) := by decide +kernel
theorem dL_law_1370 : decode cL_law 1370 = .ok (.istore 5, 2) := by decide +kernel
theorem dL_law_1372 : decode cL_law 1372 = .ok (.aload_n 2, 1) := by decide +kernel
theorem dL_law_1373 : decode cL_law 1373 = .ok (.aload_n 0, 1) := by decide +kernel
theorem dL_law_1374 : decode cL_law 1374 = .ok (.iload 4, 2) := by decide +kernel
theorem dL_law_1376 : decode cL_law 1376 = .ok (.iconst 1, 1) := by decide +kernel
theorem dL_law_1377 : decode cL_law 1377 = .ok (.iadd, 1) := by decide +kernel
theorem dL_law_1378 : decode cL_law 1378 = .ok (.iaload, 1) := by decide +kernel
theorem dL_law_1379 : decode cL_law 1379 = .ok (.aload_n 0, 1) := by decide +kernel
theorem dL_law_1380 : decode cL_law 1380 = .ok (.iload 4, 2) := by decide +kernel
theorem dL_law_1382 : decode cL_law 1382 = .ok (.iconst 2, 1) := by decide +kernel
theorem dL_law_1383 : decode cL_law 1383 = .ok (.iadd, 1) := by decide +kernel
theorem dL_law_1384 : decode cL_law 1384 = .ok (.iaload, 1) := by decide +kernel
theorem dL_law_1385 : decode cL_law 1385 = .ok (.invokevirtual 203, 3) := by decide +kernel
theorem dL_law_1388 : decode cL_law 1388 = .ok (.lstore 6, 2) := by decide +kernel
theorem dL_law_1390 : decode cL_law 1390 = .ok (.aload_n 2, 1) := by decide +kernel
theorem dL_law_1391 : decode cL_law 1391 = .ok (.invokevirtual 118, 3) := by decide +kernel
theorem dL_law_1394 : decode cL_law 1394 = .ok (.iload 5, 2) := by decide +kernel
theorem dL_law_1396 : decode cL_law 1396 = .ok (.if_icmp .eq 5, 3) := by decide +kernel
theorem dL_law_1399 : decode cL_law 1399 = .ok (.iconst 0, 1) := by decide +kernel
theorem dL_law_1400 : decode cL_law 1400 = .ok (.ireturn, 1) := by decide +kernel
theorem dL_law_1401 : decode cL_law 1401 = .ok (.iload 5, 2) := by decide +kernel
theorem dL_law_1403 : decode cL_law 1403 = .ok (.ifCond .ne 14, 3) := by decide +kernel
theorem dL_law_1406 : decode cL_law 1406 = .ok (.aload_n 3, 1) := by decide +kernel
theorem dL_law_1407 : decode cL_law 1407 = .ok (.iconst 0, 1) := by decide +kernel
theorem dL_law_1408 : decode cL_law 1408 = .ok (.laload, 1) := by decide +kernel
theorem dL_law_1409 : decode cL_law 1409 = .ok (.lload 6, 2) := by decide +kernel
theorem dL_law_1411 : decode cL_law 1411 = .ok (.lcmp, 1) := by decide +kernel
theorem dL_law_1412 : decode cL_law 1412 = .ok (.ifCond .eq 5, 3) := by decide +kernel
theorem dL_law_1415 : decode cL_law 1415 = .ok (.iconst 0, 1) := by decide +kernel
theorem dL_law_1416 : decode cL_law 1416 = .ok (.ireturn, 1) := by decide +kernel
theorem dL_law_1417 : decode cL_law 1417 = .ok (.goto 796, 3) := by decide +kernel
theorem dL_law_1420 : decode cL_law 1420 = .ok (.aload_n 1, 1) := by decide +kernel
theorem dL_law_1421 : decode cL_law 1421 = .ok (.aload_n 0, 1) := by decide +kernel
theorem dL_law_1422 : decode cL_law 1422 = .ok (.iload 4, 2) := by decide +kernel
theorem dL_law_1424 : decode cL_law 1424 = .ok (.iconst 1, 1) := by decide +kernel
theorem dL_law_1425 : decode cL_law 1425 = .ok (.iadd, 1) := by decide +kernel
theorem dL_law_1426 : decode cL_law 1426 = .ok (.iaload, 1) := by decide +kernel
theorem dL_law_1427 : decode cL_law 1427 = .ok (.aload_n 0, 1) := by decide +kernel
theorem dL_law_1428 : decode cL_law 1428 = .ok (.iload 4, 2) := by decide +kernel
theorem dL_law_1430 : decode cL_law 1430 = .ok (.iconst 2, 1) := by decide +kernel
theorem dL_law_1431 : decode cL_law 1431 = .ok (.iadd, 1) := by decide +kernel
theorem dL_law_1432 : decode cL_law 1432 = .ok (.iaload, 1) := by decide +kernel
theorem dL_law_1433 : decode cL_law 1433 = .ok (.aload_n 3, 1) := by decide +kernel
theorem dL_law_1434 : decode cL_law 1434 = .ok (.invokestatic 204, 3) := by decide +kernel
theorem dL_law_1437 : decode cL_law 1437 = .ok (.istore 5, 2) := by decide +kernel
theorem dL_law_1439 : decode cL_law 1439 = .ok (.aload_n 2, 1) := by decide +kernel
theorem dL_law_1440 : decode cL_law 1440 = .ok (.aload_n 0, 1) := by decide +kernel
theorem dL_law_1441 : decode cL_law 1441 = .ok (.iload 4, 2) := by decide +kernel
theorem dL_law_1443 : decode cL_law 1443 = .ok (.iconst 1, 1) := by decide +kernel
theorem dL_law_1444 : decode cL_law 1444 = .ok (.iadd, 1) := by decide +kernel
theorem dL_law_1445 : decode cL_law 1445 = .ok (.iaload, 1) := by decide +kernel
theorem dL_law_1446 : decode cL_law 1446 = .ok (.aload_n 0, 1) := by decide +kernel
theorem dL_law_1447 : decode cL_law 1447 = .ok (.iload 4, 2) := by decide +kernel
theorem dL_law_1449 : decode cL_law 1449 = .ok (.iconst 2, 1) := by decide +kernel
theorem dL_law_1450 : decode cL_law 1450 = .ok (.iadd, 1) := by decide +kernel
theorem dL_law_1451 : decode cL_law 1451 = .ok (.iaload, 1) := by decide +kernel
theorem dL_law_1452 : decode cL_law 1452 = .ok (.invokevirtual 206, 3) := by decide +kernel
theorem dL_law_1455 : decode cL_law 1455 = .ok (.istore 6, 2) := by decide +kernel
theorem dL_law_1457 : decode cL_law 1457 = .ok (.aload_n 2, 1) := by decide +kernel
theorem dL_law_1458 : decode cL_law 1458 = .ok (.invokevirtual 118, 3) := by decide +kernel
theorem dL_law_1461 : decode cL_law 1461 = .ok (.iload 5, 2) := by decide +kernel
theorem dL_law_1463 : decode cL_law 1463 = .ok (.if_icmp .eq 5, 3) := by decide +kernel
theorem dL_law_1466 : decode cL_law 1466 = .ok (.iconst 0, 1) := by decide +kernel
theorem dL_law_1467 : decode cL_law 1467 = .ok (.ireturn, 1) := by decide +kernel
theorem dL_law_1468 : decode cL_law 1468 = .ok (.iload 5, 2) := by decide +kernel
theorem dL_law_1470 : decode cL_law 1470 = .ok (.ifCond .ne 22, 3) := by decide +kernel
theorem dL_law_1473 : decode cL_law 1473 = .ok (.aload_n 3, 1) := by decide +kernel
theorem dL_law_1474 : decode cL_law 1474 = .ok (.iconst 0, 1) := by decide +kernel
theorem dL_law_1475 : decode cL_law 1475 = .ok (.laload, 1) := by decide +kernel
theorem dL_law_1476 : decode cL_law 1476 = .ok (.iload 6, 2) := by decide +kernel
theorem dL_law_1478 : decode cL_law 1478 = .ok (.ifCond .eq 7, 3) := by decide +kernel
theorem dL_law_1481 : decode cL_law 1481 = .ok (.lconst 1, 1) := by decide +kernel
theorem dL_law_1482 : decode cL_law 1482 = .ok (.goto 4, 3) := by decide +kernel
theorem dL_law_1485 : decode cL_law 1485 = .ok (.lconst 0, 1) := by decide +kernel
theorem dL_law_1486 : decode cL_law 1486 = .ok (.lcmp, 1) := by decide +kernel
theorem dL_law_1487 : decode cL_law 1487 = .ok (.ifCond .eq 5, 3) := by decide +kernel
theorem dL_law_1490 : decode cL_law 1490 = .ok (.iconst 0, 1) := by decide +kernel
theorem dL_law_1491 : decode cL_law 1491 = .ok (.ireturn, 1) := by decide +kernel
theorem dL_law_1492 : decode cL_law 1492 = .ok (.goto 721, 3) := by decide +kernel
theorem dL_law_1495 : decode cL_law 1495 = .ok (.aload_n 1, 1) := by decide +kernel
theorem dL_law_1496 : decode cL_law 1496 = .ok (.aload_n 0, 1) := by decide +kernel
theorem dL_law_1497 : decode cL_law 1497 = .ok (.iload 4, 2) := by decide +kernel
theorem dL_law_1499 : decode cL_law 1499 = .ok (.iconst 1, 1) := by decide +kernel
theorem dL_law_1500 : decode cL_law 1500 = .ok (.iadd, 1) := by decide +kernel
theorem dL_law_1501 : decode cL_law 1501 = .ok (.iaload, 1) := by decide +kernel
theorem dL_law_1502 : decode cL_law 1502 = .ok (.aload_n 0, 1) := by decide +kernel
theorem dL_law_1503 : decode cL_law 1503 = .ok (.iload 4, 2) := by decide +kernel
theorem dL_law_1505 : decode cL_law 1505 = .ok (.iconst 2, 1) := by decide +kernel
theorem dL_law_1506 : decode cL_law 1506 = .ok (.iadd, 1) := by decide +kernel
theorem dL_law_1507 : decode cL_law 1507 = .ok (.iaload, 1) := by decide +kernel
theorem dL_law_1508 : decode cL_law 1508 = .ok (.aload_n 3, 1) := by decide +kernel
theorem dL_law_1509 : decode cL_law 1509 = .ok (.invokestatic 207, 3) := by decide +kernel
theorem dL_law_1512 : decode cL_law 1512 = .ok (.istore 5, 2) := by decide +kernel
theorem dL_law_1514 : decode cL_law 1514 = .ok (.aload_n 2, 1) := by decide +kernel
theorem dL_law_1515 : decode cL_law 1515 = .ok (.aload_n 0, 1) := by decide +kernel
theorem dL_law_1516 : decode cL_law 1516 = .ok (.iload 4, 2) := by decide +kernel
theorem dL_law_1518 : decode cL_law 1518 = .ok (.iconst 1, 1) := by decide +kernel
theorem dL_law_1519 : decode cL_law 1519 = .ok (.iadd, 1) := by decide +kernel
theorem dL_law_1520 : decode cL_law 1520 = .ok (.iaload, 1) := by decide +kernel
theorem dL_law_1521 : decode cL_law 1521 = .ok (.aload_n 0, 1) := by decide +kernel
theorem dL_law_1522 : decode cL_law 1522 = .ok (.iload 4, 2) := by decide +kernel
theorem dL_law_1524 : decode cL_law 1524 = .ok (.iconst 2, 1) := by decide +kernel
theorem dL_law_1525 : decode cL_law 1525 = .ok (.iadd, 1) := by decide +kernel
theorem dL_law_1526 : decode cL_law 1526 = .ok (.iaload, 1) := by decide +kernel
theorem dL_law_1527 : decode cL_law 1527 = .ok (.invokevirtual 209, 3) := by decide +kernel
theorem dL_law_1530 : decode cL_law 1530 = .ok (.istore 6, 2) := by decide +kernel
theorem dL_law_1532 : decode cL_law 1532 = .ok (.aload_n 2, 1) := by decide +kernel
theorem dL_law_1533 : decode cL_law 1533 = .ok (.invokevirtual 118, 3) := by decide +kernel
theorem dL_law_1536 : decode cL_law 1536 = .ok (.iload 5, 2) := by decide +kernel
theorem dL_law_1538 : decode cL_law 1538 = .ok (.if_icmp .eq 5, 3) := by decide +kernel
theorem dL_law_1541 : decode cL_law 1541 = .ok (.iconst 0, 1) := by decide +kernel
theorem dL_law_1542 : decode cL_law 1542 = .ok (.ireturn, 1) := by decide +kernel
theorem dL_law_1543 : decode cL_law 1543 = .ok (.iload 5, 2) := by decide +kernel
theorem dL_law_1545 : decode cL_law 1545 = .ok (.ifCond .ne 15, 3) := by decide +kernel
theorem dL_law_1548 : decode cL_law 1548 = .ok (.aload_n 3, 1) := by decide +kernel
theorem dL_law_1549 : decode cL_law 1549 = .ok (.iconst 0, 1) := by decide +kernel
theorem dL_law_1550 : decode cL_law 1550 = .ok (.laload, 1) := by decide +kernel
theorem dL_law_1551 : decode cL_law 1551 = .ok (.iload 6, 2) := by decide +kernel
theorem dL_law_1553 : decode cL_law 1553 = .ok (.i2l, 1) := by decide +kernel
theorem dL_law_1554 : decode cL_law 1554 = .ok (.lcmp, 1) := by decide +kernel
theorem dL_law_1555 : decode cL_law 1555 = .ok (.ifCond .eq 5, 3) := by decide +kernel
theorem dL_law_1558 : decode cL_law 1558 = .ok (.iconst 0, 1) := by decide +kernel
theorem dL_law_1559 : decode cL_law 1559 = .ok (.ireturn, 1) := by decide +kernel
theorem dL_law_1560 : decode cL_law 1560 = .ok (.goto 653, 3) := by decide +kernel
theorem dL_law_1563 : decode cL_law 1563 = .ok (.aload_n 1, 1) := by decide +kernel
theorem dL_law_1564 : decode cL_law 1564 = .ok (.aload_n 0, 1) := by decide +kernel
theorem dL_law_1565 : decode cL_law 1565 = .ok (.iload 4, 2) := by decide +kernel
theorem dL_law_1567 : decode cL_law 1567 = .ok (.iconst 1, 1) := by decide +kernel
theorem dL_law_1568 : decode cL_law 1568 = .ok (.iadd, 1) := by decide +kernel
theorem dL_law_1569 : decode cL_law 1569 = .ok (.iaload, 1) := by decide +kernel
theorem dL_law_1570 : decode cL_law 1570 = .ok (.aload_n 3, 1) := by decide +kernel
theorem dL_law_1571 : decode cL_law 1571 = .ok (.invokestatic 210, 3) := by decide +kernel
theorem dL_law_1574 : decode cL_law 1574 = .ok (.istore 5, 2) := by decide +kernel
theorem dL_law_1576 : decode cL_law 1576 = .ok (.aload_n 2, 1) := by decide +kernel
theorem dL_law_1577 : decode cL_law 1577 = .ok (.aload_n 0, 1) := by decide +kernel
theorem dL_law_1578 : decode cL_law 1578 = .ok (.iload 4, 2) := by decide +kernel
theorem dL_law_1580 : decode cL_law 1580 = .ok (.iconst 1, 1) := by decide +kernel
theorem dL_law_1581 : decode cL_law 1581 = .ok (.iadd, 1) := by decide +kernel
theorem dL_law_1582 : decode cL_law 1582 = .ok (.iaload, 1) := by decide +kernel
theorem dL_law_1583 : decode cL_law 1583 = .ok (.invokevirtual 212, 3) := by decide +kernel
theorem dL_law_1586 : decode cL_law 1586 = .ok (.istore 6, 2) := by decide +kernel
theorem dL_law_1588 : decode cL_law 1588 = .ok (.aload_n 2, 1) := by decide +kernel
theorem dL_law_1589 : decode cL_law 1589 = .ok (.invokevirtual 118, 3) := by decide +kernel
theorem dL_law_1592 : decode cL_law 1592 = .ok (.iload 5, 2) := by decide +kernel
theorem dL_law_1594 : decode cL_law 1594 = .ok (.if_icmp .eq 5, 3) := by decide +kernel
theorem dL_law_1597 : decode cL_law 1597 = .ok (.iconst 0, 1) := by decide +kernel
theorem dL_law_1598 : decode cL_law 1598 = .ok (.ireturn, 1) := by decide +kernel
theorem dL_law_1599 : decode cL_law 1599 = .ok (.iload 5, 2) := by decide +kernel
theorem dL_law_1601 : decode cL_law 1601 = .ok (.ifCond .ne 15, 3) := by decide +kernel
theorem dL_law_1604 : decode cL_law 1604 = .ok (.aload_n 3, 1) := by decide +kernel
theorem dL_law_1605 : decode cL_law 1605 = .ok (.iconst 0, 1) := by decide +kernel
theorem dL_law_1606 : decode cL_law 1606 = .ok (.laload, 1) := by decide +kernel
theorem dL_law_1607 : decode cL_law 1607 = .ok (.iload 6, 2) := by decide +kernel
theorem dL_law_1609 : decode cL_law 1609 = .ok (.i2l, 1) := by decide +kernel
theorem dL_law_1610 : decode cL_law 1610 = .ok (.lcmp, 1) := by decide +kernel
theorem dL_law_1611 : decode cL_law 1611 = .ok (.ifCond .eq 5, 3) := by decide +kernel
theorem dL_law_1614 : decode cL_law 1614 = .ok (.iconst 0, 1) := by decide +kernel
theorem dL_law_1615 : decode cL_law 1615 = .ok (.ireturn, 1) := by decide +kernel
theorem dL_law_1616 : decode cL_law 1616 = .ok (.goto 597, 3) := by decide +kernel
theorem dL_law_1619 : decode cL_law 1619 = .ok (.aload_n 1, 1) := by decide +kernel
theorem dL_law_1620 : decode cL_law 1620 = .ok (.aload_n 0, 1) := by decide +kernel
theorem dL_law_1621 : decode cL_law 1621 = .ok (.iload 4, 2) := by decide +kernel
theorem dL_law_1623 : decode cL_law 1623 = .ok (.iconst 1, 1) := by decide +kernel
theorem dL_law_1624 : decode cL_law 1624 = .ok (.iadd, 1) := by decide +kernel
theorem dL_law_1625 : decode cL_law 1625 = .ok (.iaload, 1) := by decide +kernel
theorem dL_law_1626 : decode cL_law 1626 = .ok (.aload_n 3, 1) := by decide +kernel
theorem dL_law_1627 : decode cL_law 1627 = .ok (.invokestatic 213, 3) := by decide +kernel
theorem dL_law_1630 : decode cL_law 1630 = .ok (.istore 5, 2) := by decide +kernel
theorem dL_law_1632 : decode cL_law 1632 = .ok (.aload_n 2, 1) := by decide +kernel
theorem dL_law_1633 : decode cL_law 1633 = .ok (.aload_n 0, 1) := by decide +kernel
theorem dL_law_1634 : decode cL_law 1634 = .ok (.iload 4, 2) := by decide +kernel
theorem dL_law_1636 : decode cL_law 1636 = .ok (.iconst 1, 1) := by decide +kernel
theorem dL_law_1637 : decode cL_law 1637 = .ok (.iadd, 1) := by decide +kernel
theorem dL_law_1638 : decode cL_law 1638 = .ok (.iaload, 1) := by decide +kernel
theorem dL_law_1639 : decode cL_law 1639 = .ok (.invokevirtual 215, 3) := by decide +kernel
theorem dL_law_1642 : decode cL_law 1642 = .ok (.istore 6, 2) := by decide +kernel
theorem dL_law_1644 : decode cL_law 1644 = .ok (.aload_n 2, 1) := by decide +kernel
theorem dL_law_1645 : decode cL_law 1645 = .ok (.invokevirtual 118, 3) := by decide +kernel
theorem dL_law_1648 : decode cL_law 1648 = .ok (.iload 5, 2) := by decide +kernel
theorem dL_law_1650 : decode cL_law 1650 = .ok (.if_icmp .eq 5, 3) := by decide +kernel
theorem dL_law_1653 : decode cL_law 1653 = .ok (.iconst 0, 1) := by decide +kernel
theorem dL_law_1654 : decode cL_law 1654 = .ok (.ireturn, 1) := by decide +kernel
theorem dL_law_1655 : decode cL_law 1655 = .ok (.iload 5, 2) := by decide +kernel
theorem dL_law_1657 : decode cL_law 1657 = .ok (.ifCond .ne 15, 3) := by decide +kernel
theorem dL_law_1660 : decode cL_law 1660 = .ok (.aload_n 3, 1) := by decide +kernel
theorem dL_law_1661 : decode cL_law 1661 = .ok (.iconst 0, 1) := by decide +kernel
theorem dL_law_1662 : decode cL_law 1662 = .ok (.laload, 1) := by decide +kernel
theorem dL_law_1663 : decode cL_law 1663 = .ok (.iload 6, 2) := by decide +kernel
theorem dL_law_1665 : decode cL_law 1665 = .ok (.i2l, 1) := by decide +kernel
theorem dL_law_1666 : decode cL_law 1666 = .ok (.lcmp, 1) := by decide +kernel
theorem dL_law_1667 : decode cL_law 1667 = .ok (.ifCond .eq 5, 3) := by decide +kernel
theorem dL_law_1670 : decode cL_law 1670 = .ok (.iconst 0, 1) := by decide +kernel
theorem dL_law_1671 : decode cL_law 1671 = .ok (.ireturn, 1) := by decide +kernel
theorem dL_law_1672 : decode cL_law 1672 = .ok (.goto 541, 3) := by decide +kernel
theorem dL_law_1675 : decode cL_law 1675 = .ok (.aload_n 1, 1) := by decide +kernel
theorem dL_law_1676 : decode cL_law 1676 = .ok (.aload_n 0, 1) := by decide +kernel
theorem dL_law_1677 : decode cL_law 1677 = .ok (.iload 4, 2) := by decide +kernel
theorem dL_law_1679 : decode cL_law 1679 = .ok (.iconst 1, 1) := by decide +kernel
theorem dL_law_1680 : decode cL_law 1680 = .ok (.iadd, 1) := by decide +kernel
theorem dL_law_1681 : decode cL_law 1681 = .ok (.iaload, 1) := by decide +kernel
theorem dL_law_1682 : decode cL_law 1682 = .ok (.aload_n 3, 1) := by decide +kernel
theorem dL_law_1683 : decode cL_law 1683 = .ok (.invokestatic 216, 3) := by decide +kernel
theorem dL_law_1686 : decode cL_law 1686 = .ok (.istore 5, 2) := by decide +kernel
theorem dL_law_1688 : decode cL_law 1688 = .ok (.aload_n 2, 1) := by decide +kernel
theorem dL_law_1689 : decode cL_law 1689 = .ok (.aload_n 0, 1) := by decide +kernel
theorem dL_law_1690 : decode cL_law 1690 = .ok (.iload 4, 2) := by decide +kernel
theorem dL_law_1692 : decode cL_law 1692 = .ok (.iconst 1, 1) := by decide +kernel
theorem dL_law_1693 : decode cL_law 1693 = .ok (.iadd, 1) := by decide +kernel
theorem dL_law_1694 : decode cL_law 1694 = .ok (.iaload, 1) := by decide +kernel
theorem dL_law_1695 : decode cL_law 1695 = .ok (.invokevirtual 218, 3) := by decide +kernel
theorem dL_law_1698 : decode cL_law 1698 = .ok (.istore 6, 2) := by decide +kernel
theorem dL_law_1700 : decode cL_law 1700 = .ok (.aload_n 2, 1) := by decide +kernel
theorem dL_law_1701 : decode cL_law 1701 = .ok (.invokevirtual 118, 3) := by decide +kernel
theorem dL_law_1704 : decode cL_law 1704 = .ok (.iload 5, 2) := by decide +kernel
theorem dL_law_1706 : decode cL_law 1706 = .ok (.if_icmp .eq 5, 3) := by decide +kernel
theorem dL_law_1709 : decode cL_law 1709 = .ok (.iconst 0, 1) := by decide +kernel
theorem dL_law_1710 : decode cL_law 1710 = .ok (.ireturn, 1) := by decide +kernel
theorem dL_law_1711 : decode cL_law 1711 = .ok (.iload 5, 2) := by decide +kernel
theorem dL_law_1713 : decode cL_law 1713 = .ok (.ifCond .ne 22, 3) := by decide +kernel
theorem dL_law_1716 : decode cL_law 1716 = .ok (.aload_n 3, 1) := by decide +kernel
theorem dL_law_1717 : decode cL_law 1717 = .ok (.iconst 0, 1) := by decide +kernel
theorem dL_law_1718 : decode cL_law 1718 = .ok (.laload, 1) := by decide +kernel
theorem dL_law_1719 : decode cL_law 1719 = .ok (.iload 6, 2) := by decide +kernel
theorem dL_law_1721 : decode cL_law 1721 = .ok (.ifCond .eq 7, 3) := by decide +kernel
theorem dL_law_1724 : decode cL_law 1724 = .ok (.lconst 1, 1) := by decide +kernel
theorem dL_law_1725 : decode cL_law 1725 = .ok (.goto 4, 3) := by decide +kernel
theorem dL_law_1728 : decode cL_law 1728 = .ok (.lconst 0, 1) := by decide +kernel
theorem dL_law_1729 : decode cL_law 1729 = .ok (.lcmp, 1) := by decide +kernel
theorem dL_law_1730 : decode cL_law 1730 = .ok (.ifCond .eq 5, 3) := by decide +kernel
theorem dL_law_1733 : decode cL_law 1733 = .ok (.iconst 0, 1) := by decide +kernel
theorem dL_law_1734 : decode cL_law 1734 = .ok (.ireturn, 1) := by decide +kernel
theorem dL_law_1735 : decode cL_law 1735 = .ok (.goto 478, 3) := by decide +kernel
theorem dL_law_1738 : decode cL_law 1738 = .ok (.aload_n 1, 1) := by decide +kernel
theorem dL_law_1739 : decode cL_law 1739 = .ok (.aload_n 0, 1) := by decide +kernel
theorem dL_law_1740 : decode cL_law 1740 = .ok (.iload 4, 2) := by decide +kernel
theorem dL_law_1742 : decode cL_law 1742 = .ok (.iconst 1, 1) := by decide +kernel
theorem dL_law_1743 : decode cL_law 1743 = .ok (.iadd, 1) := by decide +kernel
theorem dL_law_1744 : decode cL_law 1744 = .ok (.iaload, 1) := by decide +kernel
theorem dL_law_1745 : decode cL_law 1745 = .ok (.aload_n 0, 1) := by decide +kernel
theorem dL_law_1746 : decode cL_law 1746 = .ok (.iload 4, 2) := by decide +kernel
theorem dL_law_1748 : decode cL_law 1748 = .ok (.iconst 2, 1) := by decide +kernel
theorem dL_law_1749 : decode cL_law 1749 = .ok (.iadd, 1) := by decide +kernel
theorem dL_law_1750 : decode cL_law 1750 = .ok (.iaload, 1) := by decide +kernel
theorem dL_law_1751 : decode cL_law 1751 = .ok (.aload_n 0, 1) := by decide +kernel
theorem dL_law_1752 : decode cL_law 1752 = .ok (.iload 4, 2) := by decide +kernel
theorem dL_law_1754 : decode cL_law 1754 = .ok (.iconst 3, 1) := by decide +kernel
theorem dL_law_1755 : decode cL_law 1755 = .ok (.iadd, 1) := by decide +kernel
theorem dL_law_1756 : decode cL_law 1756 = .ok (.iaload, 1) := by decide +kernel
theorem dL_law_1757 : decode cL_law 1757 = .ok (.aload_n 3, 1) := by decide +kernel
theorem dL_law_1758 : decode cL_law 1758 = .ok (.invokestatic 219, 3) := by decide +kernel
theorem dL_law_1761 : decode cL_law 1761 = .ok (.istore 5, 2) := by decide +kernel
theorem dL_law_1763 : decode cL_law 1763 = .ok (.aload_n 2, 1) := by decide +kernel
theorem dL_law_1764 : decode cL_law 1764 = .ok (.aload_n 0, 1) := by decide +kernel
theorem dL_law_1765 : decode cL_law 1765 = .ok (.iload 4, 2) := by decide +kernel
theorem dL_law_1767 : decode cL_law 1767 = .ok (.iconst 1, 1) := by decide +kernel
theorem dL_law_1768 : decode cL_law 1768 = .ok (.iadd, 1) := by decide +kernel
theorem dL_law_1769 : decode cL_law 1769 = .ok (.iaload, 1) := by decide +kernel
theorem dL_law_1770 : decode cL_law 1770 = .ok (.aload_n 0, 1) := by decide +kernel
theorem dL_law_1771 : decode cL_law 1771 = .ok (.iload 4, 2) := by decide +kernel
theorem dL_law_1773 : decode cL_law 1773 = .ok (.iconst 2, 1) := by decide +kernel
theorem dL_law_1774 : decode cL_law 1774 = .ok (.iadd, 1) := by decide +kernel
theorem dL_law_1775 : decode cL_law 1775 = .ok (.iaload, 1) := by decide +kernel
theorem dL_law_1776 : decode cL_law 1776 = .ok (.aload_n 0, 1) := by decide +kernel
theorem dL_law_1777 : decode cL_law 1777 = .ok (.iload 4, 2) := by decide +kernel
theorem dL_law_1779 : decode cL_law 1779 = .ok (.iconst 3, 1) := by decide +kernel
theorem dL_law_1780 : decode cL_law 1780 = .ok (.iadd, 1) := by decide +kernel
theorem dL_law_1781 : decode cL_law 1781 = .ok (.iaload, 1) := by decide +kernel
theorem dL_law_1782 : decode cL_law 1782 = .ok (.invokevirtual 221, 3) := by decide +kernel
theorem dL_law_1785 : decode cL_law 1785 = .ok (.lstore 6, 2) := by decide +kernel
theorem dL_law_1787 : decode cL_law 1787 = .ok (.aload_n 2, 1) := by decide +kernel
theorem dL_law_1788 : decode cL_law 1788 = .ok (.invokevirtual 118, 3) := by decide +kernel
theorem dL_law_1791 : decode cL_law 1791 = .ok (.iload 5, 2) := by decide +kernel
theorem dL_law_1793 : decode cL_law 1793 = .ok (.if_icmp .eq 5, 3) := by decide +kernel
theorem dL_law_1796 : decode cL_law 1796 = .ok (.iconst 0, 1) := by decide +kernel
theorem dL_law_1797 : decode cL_law 1797 = .ok (.ireturn, 1) := by decide +kernel
theorem dL_law_1798 : decode cL_law 1798 = .ok (.iload 5, 2) := by decide +kernel
theorem dL_law_1800 : decode cL_law 1800 = .ok (.ifCond .ne 14, 3) := by decide +kernel
theorem dL_law_1803 : decode cL_law 1803 = .ok (.aload_n 3, 1) := by decide +kernel
theorem dL_law_1804 : decode cL_law 1804 = .ok (.iconst 0, 1) := by decide +kernel
theorem dL_law_1805 : decode cL_law 1805 = .ok (.laload, 1) := by decide +kernel
theorem dL_law_1806 : decode cL_law 1806 = .ok (.lload 6, 2) := by decide +kernel
theorem dL_law_1808 : decode cL_law 1808 = .ok (.lcmp, 1) := by decide +kernel
theorem dL_law_1809 : decode cL_law 1809 = .ok (.ifCond .eq 5, 3) := by decide +kernel
theorem dL_law_1812 : decode cL_law 1812 = .ok (.iconst 0, 1) := by decide +kernel
theorem dL_law_1813 : decode cL_law 1813 = .ok (.ireturn, 1) := by decide +kernel
theorem dL_law_1814 : decode cL_law 1814 = .ok (.goto 399, 3) := by decide +kernel
theorem dL_law_1817 : decode cL_law 1817 = .ok (.aload_n 1, 1) := by decide +kernel
theorem dL_law_1818 : decode cL_law 1818 = .ok (.aload_n 0, 1) := by decide +kernel
theorem dL_law_1819 : decode cL_law 1819 = .ok (.iload 4, 2) := by decide +kernel
theorem dL_law_1821 : decode cL_law 1821 = .ok (.iconst 1, 1) := by decide +kernel
theorem dL_law_1822 : decode cL_law 1822 = .ok (.iadd, 1) := by decide +kernel
theorem dL_law_1823 : decode cL_law 1823 = .ok (.iaload, 1) := by decide +kernel
theorem dL_law_1824 : decode cL_law 1824 = .ok (.aload_n 0, 1) := by decide +kernel
theorem dL_law_1825 : decode cL_law 1825 = .ok (.iload 4, 2) := by decide +kernel
theorem dL_law_1827 : decode cL_law 1827 = .ok (.iconst 2, 1) := by decide +kernel
theorem dL_law_1828 : decode cL_law 1828 = .ok (.iadd, 1) := by decide +kernel
theorem dL_law_1829 : decode cL_law 1829 = .ok (.iaload, 1) := by decide +kernel
theorem dL_law_1830 : decode cL_law 1830 = .ok (.aload_n 0, 1) := by decide +kernel
theorem dL_law_1831 : decode cL_law 1831 = .ok (.iload 4, 2) := by decide +kernel
theorem dL_law_1833 : decode cL_law 1833 = .ok (.iconst 3, 1) := by decide +kernel
theorem dL_law_1834 : decode cL_law 1834 = .ok (.iadd, 1) := by decide +kernel
theorem dL_law_1835 : decode cL_law 1835 = .ok (.iaload, 1) := by decide +kernel
theorem dL_law_1836 : decode cL_law 1836 = .ok (.aload_n 3, 1) := by decide +kernel
theorem dL_law_1837 : decode cL_law 1837 = .ok (.invokestatic 222, 3) := by decide +kernel
theorem dL_law_1840 : decode cL_law 1840 = .ok (.istore 5, 2) := by decide +kernel
theorem dL_law_1842 : decode cL_law 1842 = .ok (.aload_n 2, 1) := by decide +kernel
theorem dL_law_1843 : decode cL_law 1843 = .ok (.aload_n 0, 1) := by decide +kernel
theorem dL_law_1844 : decode cL_law 1844 = .ok (.iload 4, 2) := by decide +kernel
theorem dL_law_1846 : decode cL_law 1846 = .ok (.iconst 1, 1) := by decide +kernel
theorem dL_law_1847 : decode cL_law 1847 = .ok (.iadd, 1) := by decide +kernel
theorem dL_law_1848 : decode cL_law 1848 = .ok (.iaload, 1) := by decide +kernel
theorem dL_law_1849 : decode cL_law 1849 = .ok (.aload_n 0, 1) := by decide +kernel
theorem dL_law_1850 : decode cL_law 1850 = .ok (.iload 4, 2) := by decide +kernel
theorem dL_law_1852 : decode cL_law 1852 = .ok (.iconst 2, 1) := by decide +kernel
theorem dL_law_1853 : decode cL_law 1853 = .ok (.iadd, 1) := by decide +kernel
theorem dL_law_1854 : decode cL_law 1854 = .ok (.iaload, 1) := by decide +kernel
theorem dL_law_1855 : decode cL_law 1855 = .ok (.aload_n 0, 1) := by decide +kernel
theorem dL_law_1856 : decode cL_law 1856 = .ok (.iload 4, 2) := by decide +kernel
theorem dL_law_1858 : decode cL_law 1858 = .ok (.iconst 3, 1) := by decide +kernel
theorem dL_law_1859 : decode cL_law 1859 = .ok (.iadd, 1) := by decide +kernel
theorem dL_law_1860 : decode cL_law 1860 = .ok (.iaload, 1) := by decide +kernel
theorem dL_law_1861 : decode cL_law 1861 = .ok (.invokevirtual 224, 3) := by decide +kernel
theorem dL_law_1864 : decode cL_law 1864 = .ok (.lstore 6, 2) := by decide +kernel
theorem dL_law_1866 : decode cL_law 1866 = .ok (.aload_n 2, 1) := by decide +kernel
theorem dL_law_1867 : decode cL_law 1867 = .ok (.invokevirtual 118, 3) := by decide +kernel
theorem dL_law_1870 : decode cL_law 1870 = .ok (.iload 5, 2) := by decide +kernel
theorem dL_law_1872 : decode cL_law 1872 = .ok (.if_icmp .eq 5, 3) := by decide +kernel
theorem dL_law_1875 : decode cL_law 1875 = .ok (.iconst 0, 1) := by decide +kernel
theorem dL_law_1876 : decode cL_law 1876 = .ok (.ireturn, 1) := by decide +kernel
theorem dL_law_1877 : decode cL_law 1877 = .ok (.iload 5, 2) := by decide +kernel
theorem dL_law_1879 : decode cL_law 1879 = .ok (.ifCond .ne 14, 3) := by decide +kernel
theorem dL_law_1882 : decode cL_law 1882 = .ok (.aload_n 3, 1) := by decide +kernel
theorem dL_law_1883 : decode cL_law 1883 = .ok (.iconst 0, 1) := by decide +kernel
theorem dL_law_1884 : decode cL_law 1884 = .ok (.laload, 1) := by decide +kernel
theorem dL_law_1885 : decode cL_law 1885 = .ok (.lload 6, 2) := by decide +kernel
theorem dL_law_1887 : decode cL_law 1887 = .ok (.lcmp, 1) := by decide +kernel
theorem dL_law_1888 : decode cL_law 1888 = .ok (.ifCond .eq 5, 3) := by decide +kernel
theorem dL_law_1891 : decode cL_law 1891 = .ok (.iconst 0, 1) := by decide +kernel
theorem dL_law_1892 : decode cL_law 1892 = .ok (.ireturn, 1) := by decide +kernel
theorem dL_law_1893 : decode cL_law 1893 = .ok (.goto 320, 3) := by decide +kernel
theorem dL_law_1896 : decode cL_law 1896 = .ok (.aload_n 1, 1) := by decide +kernel
theorem dL_law_1897 : decode cL_law 1897 = .ok (.invokevirtual 225, 3) := by decide +kernel
theorem dL_law_1900 : decode cL_law 1900 = .ok (.aload_n 2, 1) := by decide +kernel
theorem dL_law_1901 : decode cL_law 1901 = .ok (.invokevirtual 228, 3) := by decide +kernel
theorem dL_law_1904 : decode cL_law 1904 = .ok (.if_icmp .eq 309, 3) := by decide +kernel
theorem dL_law_1907 : decode cL_law 1907 = .ok (.iconst 0, 1) := by decide +kernel
theorem dL_law_1908 : decode cL_law 1908 = .ok (.ireturn, 1) := by decide +kernel
theorem dL_law_1909 : decode cL_law 1909 = .ok (.aload_n 1, 1) := by decide +kernel
theorem dL_law_1910 : decode cL_law 1910 = .ok (.invokevirtual 229, 3) := by decide +kernel
theorem dL_law_1913 : decode cL_law 1913 = .ok (.aload_n 2, 1) := by decide +kernel
theorem dL_law_1914 : decode cL_law 1914 = .ok (.invokevirtual 232, 3) := by decide +kernel
theorem dL_law_1917 : decode cL_law 1917 = .ok (.if_icmp .eq 296, 3) := by decide +kernel
theorem dL_law_1920 : decode cL_law 1920 = .ok (.iconst 0, 1) := by decide +kernel
theorem dL_law_1921 : decode cL_law 1921 = .ok (.ireturn, 1) := by decide +kernel
theorem dL_law_1922 : decode cL_law 1922 = .ok (.aload_n 1, 1) := by decide +kernel
theorem dL_law_1923 : decode cL_law 1923 = .ok (.aload_n 0, 1) := by decide +kernel
theorem dL_law_1924 : decode cL_law 1924 = .ok (.iload 4, 2) := by decide +kernel
theorem dL_law_1926 : decode cL_law 1926 = .ok (.iconst 1, 1) := by decide +kernel
theorem dL_law_1927 : decode cL_law 1927 = .ok (.iadd, 1) := by decide +kernel
theorem dL_law_1928 : decode cL_law 1928 = .ok (.iaload, 1) := by decide +kernel
theorem dL_law_1929 : decode cL_law 1929 = .ok (.aload_n 0, 1) := by decide +kernel
theorem dL_law_1930 : decode cL_law 1930 = .ok (.iload 4, 2) := by decide +kernel
theorem dL_law_1932 : decode cL_law 1932 = .ok (.iconst 2, 1) := by decide +kernel
theorem dL_law_1933 : decode cL_law 1933 = .ok (.iadd, 1) := by decide +kernel
theorem dL_law_1934 : decode cL_law 1934 = .ok (.iaload, 1) := by decide +kernel
theorem dL_law_1935 : decode cL_law 1935 = .ok (.aload_n 3, 1) := by decide +kernel
theorem dL_law_1936 : decode cL_law 1936 = .ok (.invokestatic 233, 3) := by decide +kernel
theorem dL_law_1939 : decode cL_law 1939 = .ok (.istore 5, 2) := by decide +kernel
theorem dL_law_1941 : decode cL_law 1941 = .ok (.aload_n 2, 1) := by decide +kernel
theorem dL_law_1942 : decode cL_law 1942 = .ok (.aload_n 0, 1) := by decide +kernel
theorem dL_law_1943 : decode cL_law 1943 = .ok (.iload 4, 2) := by decide +kernel
theorem dL_law_1945 : decode cL_law 1945 = .ok (.iconst 1, 1) := by decide +kernel
theorem dL_law_1946 : decode cL_law 1946 = .ok (.iadd, 1) := by decide +kernel
theorem dL_law_1947 : decode cL_law 1947 = .ok (.iaload, 1) := by decide +kernel
theorem dL_law_1948 : decode cL_law 1948 = .ok (.aload_n 0, 1) := by decide +kernel
theorem dL_law_1949 : decode cL_law 1949 = .ok (.iload 4, 2) := by decide +kernel
theorem dL_law_1951 : decode cL_law 1951 = .ok (.iconst 2, 1) := by decide +kernel
theorem dL_law_1952 : decode cL_law 1952 = .ok (.iadd, 1) := by decide +kernel
theorem dL_law_1953 : decode cL_law 1953 = .ok (.iaload, 1) := by decide +kernel
theorem dL_law_1954 : decode cL_law 1954 = .ok (.invokevirtual 235, 3) := by decide +kernel
theorem dL_law_1957 : decode cL_law 1957 = .ok (.istore 6, 2) := by decide +kernel
theorem dL_law_1959 : decode cL_law 1959 = .ok (.aload_n 2, 1) := by decide +kernel
theorem dL_law_1960 : decode cL_law 1960 = .ok (.invokevirtual 118, 3) := by decide +kernel
theorem dL_law_1963 : decode cL_law 1963 = .ok (.iload 5, 2) := by decide +kernel
theorem dL_law_1965 : decode cL_law 1965 = .ok (.if_icmp .eq 5, 3) := by decide +kernel
theorem dL_law_1968 : decode cL_law 1968 = .ok (.iconst 0, 1) := by decide +kernel
theorem dL_law_1969 : decode cL_law 1969 = .ok (.ireturn, 1) := by decide +kernel
theorem dL_law_1970 : decode cL_law 1970 = .ok (.iload 5, 2) := by decide +kernel
theorem dL_law_1972 : decode cL_law 1972 = .ok (.ifCond .ne 15, 3) := by decide +kernel
theorem dL_law_1975 : decode cL_law 1975 = .ok (.aload_n 3, 1) := by decide +kernel
theorem dL_law_1976 : decode cL_law 1976 = .ok (.iconst 0, 1) := by decide +kernel
theorem dL_law_1977 : decode cL_law 1977 = .ok (.laload, 1) := by decide +kernel
theorem dL_law_1978 : decode cL_law 1978 = .ok (.iload 6, 2) := by decide +kernel
theorem dL_law_1980 : decode cL_law 1980 = .ok (.i2l, 1) := by decide +kernel
theorem dL_law_1981 : decode cL_law 1981 = .ok (.lcmp, 1) := by decide +kernel
theorem dL_law_1982 : decode cL_law 1982 = .ok (.ifCond .eq 5, 3) := by decide +kernel
theorem dL_law_1985 : decode cL_law 1985 = .ok (.iconst 0, 1) := by decide +kernel
theorem dL_law_1986 : decode cL_law 1986 = .ok (.ireturn, 1) := by decide +kernel
theorem dL_law_1987 : decode cL_law 1987 = .ok (.goto 226, 3) := by decide +kernel
theorem dL_law_1990 : decode cL_law 1990 = .ok (.aload_n 1, 1) := by decide +kernel
theorem dL_law_1991 : decode cL_law 1991 = .ok (.aload_n 0, 1) := by decide +kernel
theorem dL_law_1992 : decode cL_law 1992 = .ok (.iload 4, 2) := by decide +kernel
theorem dL_law_1994 : decode cL_law 1994 = .ok (.iconst 1, 1) := by decide +kernel
theorem dL_law_1995 : decode cL_law 1995 = .ok (.iadd, 1) := by decide +kernel
theorem dL_law_1996 : decode cL_law 1996 = .ok (.iaload, 1) := by decide +kernel
theorem dL_law_1997 : decode cL_law 1997 = .ok (.aload_n 3, 1) := by decide +kernel
theorem dL_law_1998 : decode cL_law 1998 = .ok (.invokestatic 236, 3) := by decide +kernel
theorem dL_law_2001 : decode cL_law 2001 = .ok (.istore 5, 2) := by decide +kernel
theorem dL_law_2003 : decode cL_law 2003 = .ok (.aload_n 2, 1) := by decide +kernel
theorem dL_law_2004 : decode cL_law 2004 = .ok (.aload_n 0, 1) := by decide +kernel
theorem dL_law_2005 : decode cL_law 2005 = .ok (.iload 4, 2) := by decide +kernel
theorem dL_law_2007 : decode cL_law 2007 = .ok (.iconst 1, 1) := by decide +kernel
theorem dL_law_2008 : decode cL_law 2008 = .ok (.iadd, 1) := by decide +kernel
theorem dL_law_2009 : decode cL_law 2009 = .ok (.iaload, 1) := by decide +kernel
theorem dL_law_2010 : decode cL_law 2010 = .ok (.invokevirtual 238, 3) := by decide +kernel
theorem dL_law_2013 : decode cL_law 2013 = .ok (.istore 6, 2) := by decide +kernel
theorem dL_law_2015 : decode cL_law 2015 = .ok (.aload_n 2, 1) := by decide +kernel
theorem dL_law_2016 : decode cL_law 2016 = .ok (.invokevirtual 118, 3) := by decide +kernel
theorem dL_law_2019 : decode cL_law 2019 = .ok (.iload 5, 2) := by decide +kernel
theorem dL_law_2021 : decode cL_law 2021 = .ok (.if_icmp .eq 5, 3) := by decide +kernel
theorem dL_law_2024 : decode cL_law 2024 = .ok (.iconst 0, 1) := by decide +kernel
theorem dL_law_2025 : decode cL_law 2025 = .ok (.ireturn, 1) := by decide +kernel
theorem dL_law_2026 : decode cL_law 2026 = .ok (.iload 5, 2) := by decide +kernel
theorem dL_law_2028 : decode cL_law 2028 = .ok (.ifCond .ne 15, 3) := by decide +kernel
theorem dL_law_2031 : decode cL_law 2031 = .ok (.aload_n 3, 1) := by decide +kernel
theorem dL_law_2032 : decode cL_law 2032 = .ok (.iconst 0, 1) := by decide +kernel
theorem dL_law_2033 : decode cL_law 2033 = .ok (.laload, 1) := by decide +kernel
theorem dL_law_2034 : decode cL_law 2034 = .ok (.iload 6, 2) := by decide +kernel
theorem dL_law_2036 : decode cL_law 2036 = .ok (.i2l, 1) := by decide +kernel
theorem dL_law_2037 : decode cL_law 2037 = .ok (.lcmp, 1) := by decide +kernel
theorem dL_law_2038 : decode cL_law 2038 = .ok (.ifCond .eq 5, 3) := by decide +kernel
theorem dL_law_2041 : decode cL_law 2041 = .ok (.iconst 0, 1) := by decide +kernel
theorem dL_law_2042 : decode cL_law 2042 = .ok (.ireturn, 1) := by decide +kernel
theorem dL_law_2043 : decode cL_law 2043 = .ok (.goto 170, 3) := by decide +kernel
theorem dL_law_2046 : decode cL_law 2046 = .ok (.aload_n 1, 1) := by decide +kernel
theorem dL_law_2047 : decode cL_law 2047 = .ok (.aload_n 0, 1) := by decide +kernel
theorem dL_law_2048 : decode cL_law 2048 = .ok (.iload 4, 2) := by decide +kernel
theorem dL_law_2050 : decode cL_law 2050 = .ok (.iconst 1, 1) := by decide +kernel
theorem dL_law_2051 : decode cL_law 2051 = .ok (.iadd, 1) := by decide +kernel
theorem dL_law_2052 : decode cL_law 2052 = .ok (.iaload, 1) := by decide +kernel
theorem dL_law_2053 : decode cL_law 2053 = .ok (.aload_n 3, 1) := by decide +kernel
theorem dL_law_2054 : decode cL_law 2054 = .ok (.invokestatic 239, 3) := by decide +kernel
theorem dL_law_2057 : decode cL_law 2057 = .ok (.istore 5, 2) := by decide +kernel
theorem dL_law_2059 : decode cL_law 2059 = .ok (.aload_n 2, 1) := by decide +kernel
theorem dL_law_2060 : decode cL_law 2060 = .ok (.aload_n 0, 1) := by decide +kernel
theorem dL_law_2061 : decode cL_law 2061 = .ok (.iload 4, 2) := by decide +kernel
theorem dL_law_2063 : decode cL_law 2063 = .ok (.iconst 1, 1) := by decide +kernel
theorem dL_law_2064 : decode cL_law 2064 = .ok (.iadd, 1) := by decide +kernel
theorem dL_law_2065 : decode cL_law 2065 = .ok (.iaload, 1) := by decide +kernel
theorem dL_law_2066 : decode cL_law 2066 = .ok (.invokevirtual 241, 3) := by decide +kernel
theorem dL_law_2069 : decode cL_law 2069 = .ok (.istore 6, 2) := by decide +kernel
theorem dL_law_2071 : decode cL_law 2071 = .ok (.aload_n 2, 1) := by decide +kernel
theorem dL_law_2072 : decode cL_law 2072 = .ok (.invokevirtual 118, 3) := by decide +kernel
theorem dL_law_2075 : decode cL_law 2075 = .ok (.iload 5, 2) := by decide +kernel
theorem dL_law_2077 : decode cL_law 2077 = .ok (.if_icmp .eq 5, 3) := by decide +kernel
theorem dL_law_2080 : decode cL_law 2080 = .ok (.iconst 0, 1) := by decide +kernel
theorem dL_law_2081 : decode cL_law 2081 = .ok (.ireturn, 1) := by decide +kernel
theorem dL_law_2082 : decode cL_law 2082 = .ok (.iload 5, 2) := by decide +kernel
theorem dL_law_2084 : decode cL_law 2084 = .ok (.ifCond .ne 15, 3) := by decide +kernel
theorem dL_law_2087 : decode cL_law 2087 = .ok (.aload_n 3, 1) := by decide +kernel
theorem dL_law_2088 : decode cL_law 2088 = .ok (.iconst 0, 1) := by decide +kernel
theorem dL_law_2089 : decode cL_law 2089 = .ok (.laload, 1) := by decide +kernel
theorem dL_law_2090 : decode cL_law 2090 = .ok (.iload 6, 2) := by decide +kernel
theorem dL_law_2092 : decode cL_law 2092 = .ok (.i2l, 1) := by decide +kernel
theorem dL_law_2093 : decode cL_law 2093 = .ok (.lcmp, 1) := by decide +kernel
theorem dL_law_2094 : decode cL_law 2094 = .ok (.ifCond .eq 5, 3) := by decide +kernel
theorem dL_law_2097 : decode cL_law 2097 = .ok (.iconst 0, 1) := by decide +kernel
theorem dL_law_2098 : decode cL_law 2098 = .ok (.ireturn, 1) := by decide +kernel
theorem dL_law_2099 : decode cL_law 2099 = .ok (.goto 114, 3) := by decide +kernel
theorem dL_law_2102 : decode cL_law 2102 = .ok (.aload_n 1, 1) := by decide +kernel
theorem dL_law_2103 : decode cL_law 2103 = .ok (.aload_n 0, 1) := by decide +kernel
theorem dL_law_2104 : decode cL_law 2104 = .ok (.iload 4, 2) := by decide +kernel
theorem dL_law_2106 : decode cL_law 2106 = .ok (.iconst 1, 1) := by decide +kernel
theorem dL_law_2107 : decode cL_law 2107 = .ok (.iadd, 1) := by decide +kernel
theorem dL_law_2108 : decode cL_law 2108 = .ok (.iaload, 1) := by decide +kernel
theorem dL_law_2109 : decode cL_law 2109 = .ok (.aload_n 3, 1) := by decide +kernel
theorem dL_law_2110 : decode cL_law 2110 = .ok (.invokestatic 242, 3) := by decide +kernel
theorem dL_law_2113 : decode cL_law 2113 = .ok (.istore 5, 2) := by decide +kernel
theorem dL_law_2115 : decode cL_law 2115 = .ok (.aload_n 2, 1) := by decide +kernel
theorem dL_law_2116 : decode cL_law 2116 = .ok (.aload_n 0, 1) := by decide +kernel
theorem dL_law_2117 : decode cL_law 2117 = .ok (.iload 4, 2) := by decide +kernel
theorem dL_law_2119 : decode cL_law 2119 = .ok (.iconst 1, 1) := by decide +kernel
theorem dL_law_2120 : decode cL_law 2120 = .ok (.iadd, 1) := by decide +kernel
theorem dL_law_2121 : decode cL_law 2121 = .ok (.iaload, 1) := by decide +kernel
theorem dL_law_2122 : decode cL_law 2122 = .ok (.invokevirtual 244, 3) := by decide +kernel
theorem dL_law_2125 : decode cL_law 2125 = .ok (.istore 6, 2) := by decide +kernel
theorem dL_law_2127 : decode cL_law 2127 = .ok (.aload_n 2, 1) := by decide +kernel
theorem dL_law_2128 : decode cL_law 2128 = .ok (.invokevirtual 118, 3) := by decide +kernel
theorem dL_law_2131 : decode cL_law 2131 = .ok (.iload 5, 2) := by decide +kernel
theorem dL_law_2133 : decode cL_law 2133 = .ok (.if_icmp .eq 5, 3) := by decide +kernel
theorem dL_law_2136 : decode cL_law 2136 = .ok (.iconst 0, 1) := by decide +kernel
theorem dL_law_2137 : decode cL_law 2137 = .ok (.ireturn, 1) := by decide +kernel
theorem dL_law_2138 : decode cL_law 2138 = .ok (.iload 5, 2) := by decide +kernel
theorem dL_law_2140 : decode cL_law 2140 = .ok (.ifCond .ne 15, 3) := by decide +kernel
theorem dL_law_2143 : decode cL_law 2143 = .ok (.aload_n 3, 1) := by decide +kernel
theorem dL_law_2144 : decode cL_law 2144 = .ok (.iconst 0, 1) := by decide +kernel
theorem dL_law_2145 : decode cL_law 2145 = .ok (.laload, 1) := by decide +kernel
theorem dL_law_2146 : decode cL_law 2146 = .ok (.iload 6, 2) := by decide +kernel
theorem dL_law_2148 : decode cL_law 2148 = .ok (.i2l, 1) := by decide +kernel
theorem dL_law_2149 : decode cL_law 2149 = .ok (.lcmp, 1) := by decide +kernel
theorem dL_law_2150 : decode cL_law 2150 = .ok (.ifCond .eq 5, 3) := by decide +kernel
theorem dL_law_2153 : decode cL_law 2153 = .ok (.iconst 0, 1) := by decide +kernel
theorem dL_law_2154 : decode cL_law 2154 = .ok (.ireturn, 1) := by decide +kernel
theorem dL_law_2155 : decode cL_law 2155 = .ok (.goto 58, 3) := by decide +kernel
theorem dL_law_2158 : decode cL_law 2158 = .ok (.aload_n 1, 1) := by decide +kernel
theorem dL_law_2159 : decode cL_law 2159 = .ok (.invokevirtual 245, 3) := by decide +kernel
theorem dL_law_2162 : decode cL_law 2162 = .ok (.dstore 5, 2) := by decide +kernel
theorem dL_law_2164 : decode cL_law 2164 = .ok (.aload_n 2, 1) := by decide +kernel
theorem dL_law_2165 : decode cL_law 2165 = .ok (.invokevirtual 249, 3) := by decide +kernel
theorem dL_law_2168 : decode cL_law 2168 = .ok (.dstore 7, 2) := by decide +kernel
theorem dL_law_2170 : decode cL_law 2170 = .ok (.dload 5, 2) := by decide +kernel
theorem dL_law_2172 : decode cL_law 2172 = .ok (.dload 7, 2) := by decide +kernel
theorem dL_law_2174 : decode cL_law 2174 = .ok (.dcmp .l, 1) := by decide +kernel
theorem dL_law_2175 : decode cL_law 2175 = .ok (.ifCond .eq 21, 3) := by decide +kernel
theorem dL_law_2178 : decode cL_law 2178 = .ok (.dload 5, 2) := by decide +kernel
theorem dL_law_2180 : decode cL_law 2180 = .ok (.dload 5, 2) := by decide +kernel
theorem dL_law_2182 : decode cL_law 2182 = .ok (.dcmp .l, 1) := by decide +kernel
theorem dL_law_2183 : decode cL_law 2183 = .ok (.ifCond .eq 11, 3) := by decide +kernel
theorem dL_law_2186 : decode cL_law 2186 = .ok (.dload 7, 2) := by decide +kernel
theorem dL_law_2188 : decode cL_law 2188 = .ok (.dload 7, 2) := by decide +kernel
theorem dL_law_2190 : decode cL_law 2190 = .ok (.dcmp .l, 1) := by decide +kernel
theorem dL_law_2191 : decode cL_law 2191 = .ok (.ifCond .ne 5, 3) := by decide +kernel
theorem dL_law_2194 : decode cL_law 2194 = .ok (.iconst 0, 1) := by decide +kernel
theorem dL_law_2195 : decode cL_law 2195 = .ok (.ireturn, 1) := by decide +kernel
theorem dL_law_2196 : decode cL_law 2196 = .ok (.goto 17, 3) := by decide +kernel
theorem dL_law_2199 : decode cL_law 2199 = .ok (.aload_n 1, 1) := by decide +kernel
theorem dL_law_2200 : decode cL_law 2200 = .ok (.invokevirtual 250, 3) := by decide +kernel
theorem dL_law_2203 : decode cL_law 2203 = .ok (.aload_n 2, 1) := by decide +kernel
theorem dL_law_2204 : decode cL_law 2204 = .ok (.invokevirtual 254, 3) := by decide +kernel
theorem dL_law_2207 : decode cL_law 2207 = .ok (.lcmp, 1) := by decide +kernel
theorem dL_law_2208 : decode cL_law 2208 = .ok (.ifCond .eq 5, 3) := by decide +kernel
theorem dL_law_2211 : decode cL_law 2211 = .ok (.iconst 0, 1) := by decide +kernel
theorem dL_law_2212 : decode cL_law 2212 = .ok (.ireturn, 1) := by decide +kernel
theorem dL_law_2213 : decode cL_law 2213 = .ok (.iinc 4 4, 3) := by decide +kernel
theorem dL_law_2216 : decode cL_law 2216 = .ok (.goto (-2193), 3) := by decide +kernel
theorem dL_law_2219 : decode cL_law 2219 = .ok (.iconst 1, 1) := by decide +kernel
theorem dL_law_2220 : decode cL_law 2220 = .ok (.ireturn, 1) := by decide +kernel
