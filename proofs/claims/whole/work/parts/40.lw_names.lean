set_option maxRecDepth 20000 in
theorem ggL_addMeasure_X1_addMeasure : GoodIn wsL_addMeasure wsX1_addMeasure := goodIn_ca (goodIn_ca (goodIn_ca (goodIn_r _ [8, 9, 10, 11, 12, 13, 14, 15, 16, 17, 18, 19, 7, 20, 21, 22, 23, 24, 25, 26, 27, 28, 29, 30, 31, 32, 33, 34, 35, 36, 37, 38, 39, 40, 41, 42, 43, 44, 45, 46, 47] (by decide +kernel) (by decide +kernel)) (goodIn_sub (fun _ h => List.mem_cons_of_mem _ (List.mem_append_left _ (List.mem_append_left _ (List.mem_append_right _ h)))) (by decide +kernel))) (goodIn_sub (fun _ h => List.mem_cons_of_mem _ (List.mem_append_left _ (List.mem_append_right _ h))) (by decide +kernel))) (goodIn_sub (fun _ h => List.mem_cons_of_mem _ (List.mem_append_right _ h)) (by decide +kernel))
set_option maxRecDepth 20000 in
theorem gL_addMeasure_X1_addMeasure : GoodIn wsL_addMeasure (wsV RL 7 RX1 yX1_addMeasure wsX1_addMeasure) := goodIn_app (goodIn_of _ (by decide +kernel)) ggL_addMeasure_X1_addMeasure
theorem dL_addMeasure_0 : decode cL_addMeasure 0 = .ok (.aload 4, 2) := by decide +kernel
theorem dL_addMeasure_2 : decode cL_addMeasure 2 = .ok (.iconst 0, 1) := by decide +kernel
theorem dL_addMeasure_3 : decode cL_addMeasure 3 = .ok (.aload_n 0, 1) := by decide +kernel
theorem dL_addMeasure_4 : decode cL_addMeasure 4 = .ok (.iload_n 1, 1) := by decide +kernel
theorem dL_addMeasure_5 : decode cL_addMeasure 5 = .ok (.iload_n 2, 1) := by decide +kernel
theorem dL_addMeasure_6 : decode cL_addMeasure 6 = .ok (.iload_n 3, 1) := by decide +kernel
theorem dL_addMeasure_7 : decode cL_addMeasure 7 = .ok (.invokevirtual 7, 3) := by decide +kernel
theorem dL_addMeasure_10 : decode cL_addMeasure 10 = .ok (.i2l, 1) := by decide +kernel
theorem dL_addMeasure_11 : decode cL_addMeasure 11 = .ok (.lastore, 1) := by decide +kernel
theorem dL_addMeasure_12 : decode cL_addMeasure 12 = .ok (.goto 15, 3) := by decide +kernel
theorem dL_addMeasure_15 : decode cL_addMeasure 15 = .ok (.astore 5, 2) := by decide +kernel
theorem dL_addMeasure_17 : decode cL_addMeasure 17 = .ok (.iconst 1, 1) := by decide +kernel
theorem dL_addMeasure_18 : decode cL_addMeasure 18 = .ok (.ireturn, 1) := by decide +kernel
theorem dL_addMeasure_19 : decode cL_addMeasure 19 = .ok (.astore 5, 2) := by decide +kernel
theorem dL_addMeasure_21 : decode cL_addMeasure 21 = .ok (.iconst 2, 1) := by decide +kernel
theorem dL_addMeasure_22 : decode cL_addMeasure 22 = .ok (.ireturn, 1) := by decide +kernel
theorem dL_addMeasure_23 : decode cL_addMeasure 23 = .ok (.astore 5, 2) := by decide +kernel
theorem dL_addMeasure_25 : decode cL_addMeasure 25 = .ok (.iconst 3, 1) := by decide +kernel
theorem dL_addMeasure_26 : decode cL_addMeasure 26 = .ok (.ireturn, 1) := by decide +kernel
theorem dL_addMeasure_27 : decode cL_addMeasure 27 = .ok (.iconst 0, 1) := by decide +kernel
theorem dL_addMeasure_28 : decode cL_addMeasure 28 = .ok (.ireturn, 1) := by decide +kernel
set_option maxRecDepth 20000 in
theorem ggL_setStandard_X1_setStandard : GoodIn wsL_setStandard wsX1_setStandard := goodIn_ca (goodIn_r _ [6, 7, 8, 9, 10, 5, 11, 12, 13, 14, 15, 16, 17, 18, 19, 20, 21, 22, 23, 24, 25, 26] (by decide +kernel) (by decide +kernel)) (goodIn_sub (fun _ h => List.mem_cons_of_mem _ (List.mem_append_right _ h)) (by decide +kernel))
set_option maxRecDepth 20000 in
theorem gL_setStandard_X1_setStandard : GoodIn wsL_setStandard (wsV RL 19 RX1 yX1_setStandard wsX1_setStandard) := goodIn_app (goodIn_of _ (by decide +kernel)) ggL_setStandard_X1_setStandard
theorem dL_setStandard_0 : decode cL_setStandard 0 = .ok (.aload_n 2, 1) := by decide +kernel
theorem dL_setStandard_1 : decode cL_setStandard 1 = .ok (.iconst 0, 1) := by decide +kernel
theorem dL_setStandard_2 : decode cL_setStandard 2 = .ok (.aload_n 0, 1) := by decide +kernel
theorem dL_setStandard_3 : decode cL_setStandard 3 = .ok (.iload_n 1, 1) := by decide +kernel
theorem dL_setStandard_4 : decode cL_setStandard 4 = .ok (.invokevirtual 19, 3) := by decide +kernel
theorem dL_setStandard_7 : decode cL_setStandard 7 = .ok (.i2l, 1) := by decide +kernel
theorem dL_setStandard_8 : decode cL_setStandard 8 = .ok (.lastore, 1) := by decide +kernel
theorem dL_setStandard_9 : decode cL_setStandard 9 = .ok (.goto 6, 3) := by decide +kernel
theorem dL_setStandard_12 : decode cL_setStandard 12 = .ok (.astore_n 3, 1) := by decide +kernel
theorem dL_setStandard_13 : decode cL_setStandard 13 = .ok (.iconst 1, 1) := by decide +kernel
theorem dL_setStandard_14 : decode cL_setStandard 14 = .ok (.ireturn, 1) := by decide +kernel
theorem dL_setStandard_15 : decode cL_setStandard 15 = .ok (.iconst 0, 1) := by decide +kernel
theorem dL_setStandard_16 : decode cL_setStandard 16 = .ok (.ireturn, 1) := by decide +kernel
set_option maxRecDepth 20000 in
theorem ggL_addStall_X1_addStall : GoodIn wsL_addStall wsX1_addStall := goodIn_ca (goodIn_ca (goodIn_r _ [7, 8, 9, 10, 11, 12, 6, 13, 14, 15, 16, 17, 18, 19, 20, 21, 22, 23, 24, 25, 26, 27, 28, 29, 30, 31, 32] (by decide +kernel) (by decide +kernel)) (goodIn_sub (fun _ h => List.mem_cons_of_mem _ (List.mem_append_left _ (List.mem_append_right _ h))) (by decide +kernel))) (goodIn_sub (fun _ h => List.mem_cons_of_mem _ (List.mem_append_right _ h)) (by decide +kernel))
set_option maxRecDepth 20000 in
theorem gL_addStall_X1_addStall : GoodIn wsL_addStall (wsV RL 23 RX1 yX1_addStall wsX1_addStall) := goodIn_app (goodIn_of _ (by decide +kernel)) ggL_addStall_X1_addStall
theorem dL_addStall_0 : decode cL_addStall 0 = .ok (.aload_n 2, 1) := by decide +kernel
theorem dL_addStall_1 : decode cL_addStall 1 = .ok (.iconst 0, 1) := by decide +kernel
theorem dL_addStall_2 : decode cL_addStall 2 = .ok (.aload_n 0, 1) := by decide +kernel
theorem dL_addStall_3 : decode cL_addStall 3 = .ok (.iload_n 1, 1) := by decide +kernel
theorem dL_addStall_4 : decode cL_addStall 4 = .ok (.invokevirtual 23, 3) := by decide +kernel
theorem dL_addStall_7 : decode cL_addStall 7 = .ok (.i2l, 1) := by decide +kernel
theorem dL_addStall_8 : decode cL_addStall 8 = .ok (.lastore, 1) := by decide +kernel
theorem dL_addStall_9 : decode cL_addStall 9 = .ok (.goto 9, 3) := by decide +kernel
theorem dL_addStall_12 : decode cL_addStall 12 = .ok (.astore_n 3, 1) := by decide +kernel
theorem dL_addStall_13 : decode cL_addStall 13 = .ok (.iconst 1, 1) := by decide +kernel
theorem dL_addStall_14 : decode cL_addStall 14 = .ok (.ireturn, 1) := by decide +kernel
theorem dL_addStall_15 : decode cL_addStall 15 = .ok (.astore_n 3, 1) := by decide +kernel
theorem dL_addStall_16 : decode cL_addStall 16 = .ok (.iconst 2, 1) := by decide +kernel
theorem dL_addStall_17 : decode cL_addStall 17 = .ok (.ireturn, 1) := by decide +kernel
theorem dL_addStall_18 : decode cL_addStall 18 = .ok (.iconst 0, 1) := by decide +kernel
theorem dL_addStall_19 : decode cL_addStall 19 = .ok (.ireturn, 1) := by decide +kernel
set_option maxRecDepth 20000 in
theorem ggL_setWear_X1_setWear : GoodIn wsL_setWear wsX1_setWear := goodIn_ca (goodIn_ca (goodIn_r _ [7, 8, 9, 10, 11, 6, 12, 13, 14, 15, 16, 17, 18, 19, 20, 21, 22, 23, 24, 25, 26, 27, 28, 29, 30, 31, 32, 33, 34, 35, 36] (by decide +kernel) (by decide +kernel)) (goodIn_sub (fun _ h => List.mem_cons_of_mem _ (List.mem_append_left _ (List.mem_append_right _ h))) (by decide +kernel))) (goodIn_sub (fun _ h => List.mem_cons_of_mem _ (List.mem_append_right _ h)) (by decide +kernel))
set_option maxRecDepth 20000 in
theorem gL_setWear_X1_setWear : GoodIn wsL_setWear (wsV RL 26 RX1 yX1_setWear wsX1_setWear) := goodIn_app (goodIn_of _ (by decide +kernel)) ggL_setWear_X1_setWear
theorem dL_setWear_0 : decode cL_setWear 0 = .ok (.aload_n 3, 1) := by decide +kernel
theorem dL_setWear_1 : decode cL_setWear 1 = .ok (.iconst 0, 1) := by decide +kernel
theorem dL_setWear_2 : decode cL_setWear 2 = .ok (.aload_n 0, 1) := by decide +kernel
theorem dL_setWear_3 : decode cL_setWear 3 = .ok (.iload_n 1, 1) := by decide +kernel
theorem dL_setWear_4 : decode cL_setWear 4 = .ok (.iload_n 2, 1) := by decide +kernel
theorem dL_setWear_5 : decode cL_setWear 5 = .ok (.invokevirtual 26, 3) := by decide +kernel
theorem dL_setWear_8 : decode cL_setWear 8 = .ok (.i2l, 1) := by decide +kernel
theorem dL_setWear_9 : decode cL_setWear 9 = .ok (.lastore, 1) := by decide +kernel
theorem dL_setWear_10 : decode cL_setWear 10 = .ok (.goto 11, 3) := by decide +kernel
theorem dL_setWear_13 : decode cL_setWear 13 = .ok (.astore 4, 2) := by decide +kernel
theorem dL_setWear_15 : decode cL_setWear 15 = .ok (.iconst 1, 1) := by decide +kernel
theorem dL_setWear_16 : decode cL_setWear 16 = .ok (.ireturn, 1) := by decide +kernel
theorem dL_setWear_17 : decode cL_setWear 17 = .ok (.astore 4, 2) := by decide +kernel
theorem dL_setWear_19 : decode cL_setWear 19 = .ok (.iconst 2, 1) := by decide +kernel
theorem dL_setWear_20 : decode cL_setWear 20 = .ok (.ireturn, 1) := by decide +kernel
theorem dL_setWear_21 : decode cL_setWear 21 = .ok (.iconst 0, 1) := by decide +kernel
theorem dL_setWear_22 : decode cL_setWear 22 = .ok (.ireturn, 1) := by decide +kernel
set_option maxRecDepth 20000 in
theorem ggL_seal_X1_seal : GoodIn wsL_seal wsX1_seal := goodIn_ca (goodIn_r _ [6, 7, 8, 9, 10, 5, 11, 12, 13, 14, 15, 16, 17, 18, 19, 20, 21, 22, 23, 24, 25, 26, 27, 28, 29, 30] (by decide +kernel) (by decide +kernel)) (goodIn_sub (fun _ h => List.mem_cons_of_mem _ (List.mem_append_right _ h)) (by decide +kernel))
set_option maxRecDepth 20000 in
theorem gL_seal_X1_seal : GoodIn wsL_seal (wsV RL 30 RX1 yX1_seal wsX1_seal) := goodIn_app (goodIn_of _ (by decide +kernel)) ggL_seal_X1_seal
theorem dL_seal_0 : decode cL_seal 0 = .ok (.aload_n 2, 1) := by decide +kernel
theorem dL_seal_1 : decode cL_seal 1 = .ok (.iconst 0, 1) := by decide +kernel
theorem dL_seal_2 : decode cL_seal 2 = .ok (.aload_n 0, 1) := by decide +kernel
theorem dL_seal_3 : decode cL_seal 3 = .ok (.iload_n 1, 1) := by decide +kernel
theorem dL_seal_4 : decode cL_seal 4 = .ok (.invokevirtual 30, 3) := by decide +kernel
theorem dL_seal_7 : decode cL_seal 7 = .ok (.i2l, 1) := by decide +kernel
theorem dL_seal_8 : decode cL_seal 8 = .ok (.lastore, 1) := by decide +kernel
theorem dL_seal_9 : decode cL_seal 9 = .ok (.goto 6, 3) := by decide +kernel
theorem dL_seal_12 : decode cL_seal 12 = .ok (.astore_n 3, 1) := by decide +kernel
theorem dL_seal_13 : decode cL_seal 13 = .ok (.iconst 1, 1) := by decide +kernel
theorem dL_seal_14 : decode cL_seal 14 = .ok (.ireturn, 1) := by decide +kernel
theorem dL_seal_15 : decode cL_seal 15 = .ok (.iconst 0, 1) := by decide +kernel
theorem dL_seal_16 : decode cL_seal 16 = .ok (.ireturn, 1) := by decide +kernel
set_option maxRecDepth 20000 in
theorem ggL_setTolerance_X1_setTolerance : GoodIn wsL_setTolerance wsX1_setTolerance := goodIn_ca (goodIn_r _ [6, 7, 8, 9, 10, 11, 5, 12, 13, 14, 15, 16, 17, 18, 19, 20, 21, 22, 23, 24, 25, 26] (by decide +kernel) (by decide +kernel)) (goodIn_sub (fun _ h => List.mem_cons_of_mem _ (List.mem_append_right _ h)) (by decide +kernel))
set_option maxRecDepth 20000 in
theorem gL_setTolerance_X1_setTolerance : GoodIn wsL_setTolerance (wsV RL 33 RX1 yX1_setTolerance wsX1_setTolerance) := goodIn_app (goodIn_of _ (by decide +kernel)) ggL_setTolerance_X1_setTolerance
theorem dL_setTolerance_0 : decode cL_setTolerance 0 = .ok (.aload_n 2, 1) := by decide +kernel
theorem dL_setTolerance_1 : decode cL_setTolerance 1 = .ok (.iconst 0, 1) := by decide +kernel
theorem dL_setTolerance_2 : decode cL_setTolerance 2 = .ok (.aload_n 0, 1) := by decide +kernel
theorem dL_setTolerance_3 : decode cL_setTolerance 3 = .ok (.iload_n 1, 1) := by decide +kernel
theorem dL_setTolerance_4 : decode cL_setTolerance 4 = .ok (.invokevirtual 33, 3) := by decide +kernel
theorem dL_setTolerance_7 : decode cL_setTolerance 7 = .ok (.i2l, 1) := by decide +kernel
theorem dL_setTolerance_8 : decode cL_setTolerance 8 = .ok (.lastore, 1) := by decide +kernel
theorem dL_setTolerance_9 : decode cL_setTolerance 9 = .ok (.goto 6, 3) := by decide +kernel
theorem dL_setTolerance_12 : decode cL_setTolerance 12 = .ok (.astore_n 3, 1) := by decide +kernel
theorem dL_setTolerance_13 : decode cL_setTolerance 13 = .ok (.iconst 1, 1) := by decide +kernel
theorem dL_setTolerance_14 : decode cL_setTolerance 14 = .ok (.ireturn, 1) := by decide +kernel
theorem dL_setTolerance_15 : decode cL_setTolerance 15 = .ok (.iconst 0, 1) := by decide +kernel
theorem dL_setTolerance_16 : decode cL_setTolerance 16 = .ok (.ireturn, 1) := by decide +kernel
set_option maxRecDepth 20000 in
theorem ggL_passDays_X1_passDays : GoodIn wsL_passDays wsX1_passDays := goodIn_ca (goodIn_r _ [6, 7, 8, 9, 10, 5, 11, 12, 13, 14, 15, 16, 17, 18, 19, 20, 21, 22, 23, 24, 25, 26, 27, 28, 29, 30, 31, 32, 33, 34, 35, 36, 37, 38, 39, 40, 41, 42, 43, 44, 45, 46, 47, 48, 49, 50, 51, 52, 53, 54, 55, 56, 57, 58, 59, 60, 61, 62, 63, 64, 65, 66, 67, 68, 69, 70, 71, 72] (by decide +kernel) (by decide +kernel)) (goodIn_sub (fun _ h => List.mem_cons_of_mem _ (List.mem_append_right _ h)) (by decide +kernel))
set_option maxRecDepth 20000 in
theorem gL_passDays_X1_passDays : GoodIn wsL_passDays (wsV RL 36 RX1 yX1_passDays wsX1_passDays) := goodIn_app (goodIn_of _ (by decide +kernel)) ggL_passDays_X1_passDays
theorem dL_passDays_0 : decode cL_passDays 0 = .ok (.aload_n 2, 1) := by decide +kernel
theorem dL_passDays_1 : decode cL_passDays 1 = .ok (.iconst 0, 1) := by decide +kernel
theorem dL_passDays_2 : decode cL_passDays 2 = .ok (.aload_n 0, 1) := by decide +kernel
theorem dL_passDays_3 : decode cL_passDays 3 = .ok (.iload_n 1, 1) := by decide +kernel
theorem dL_passDays_4 : decode cL_passDays 4 = .ok (.invokevirtual 36, 3) := by decide +kernel
theorem dL_passDays_7 : decode cL_passDays 7 = .ok (.i2l, 1) := by decide +kernel
theorem dL_passDays_8 : decode cL_passDays 8 = .ok (.lastore, 1) := by decide +kernel
theorem dL_passDays_9 : decode cL_passDays 9 = .ok (.goto 6, 3) := by decide +kernel
theorem dL_passDays_12 : decode cL_passDays 12 = .ok (.astore_n 3, 1) := by decide +kernel
theorem dL_passDays_13 : decode cL_passDays 13 = .ok (.iconst 1, 1) := by decide +kernel
theorem dL_passDays_14 : decode cL_passDays 14 = .ok (.ireturn, 1) := by decide +kernel
theorem dL_passDays_15 : decode cL_passDays 15 = .ok (.iconst 0, 1) := by decide +kernel
theorem dL_passDays_16 : decode cL_passDays 16 = .ok (.ireturn, 1) := by decide +kernel
set_option maxRecDepth 20000 in
theorem ggL_baseOf_X1_baseOf : GoodIn wsL_baseOf wsX1_baseOf := goodIn_ca (goodIn_r _ [6, 7, 8, 9, 10, 5, 11, 12, 13, 14, 15, 16, 17, 18, 19, 20, 21, 22, 23, 24, 25, 26] (by decide +kernel) (by decide +kernel)) (goodIn_sub (fun _ h => List.mem_cons_of_mem _ (List.mem_append_right _ h)) (by decide +kernel))
set_option maxRecDepth 20000 in
theorem gL_baseOf_X1_baseOf : GoodIn wsL_baseOf (wsV RL 39 RX1 yX1_baseOf wsX1_baseOf) := goodIn_app (goodIn_of _ (by decide +kernel)) ggL_baseOf_X1_baseOf
theorem dL_baseOf_0 : decode cL_baseOf 0 = .ok (.aload_n 2, 1) := by decide +kernel
theorem dL_baseOf_1 : decode cL_baseOf 1 = .ok (.iconst 0, 1) := by decide +kernel
theorem dL_baseOf_2 : decode cL_baseOf 2 = .ok (.aload_n 0, 1) := by decide +kernel
theorem dL_baseOf_3 : decode cL_baseOf 3 = .ok (.iload_n 1, 1) := by decide +kernel
theorem dL_baseOf_4 : decode cL_baseOf 4 = .ok (.invokevirtual 39, 3) := by decide +kernel
theorem dL_baseOf_7 : decode cL_baseOf 7 = .ok (.i2l, 1) := by decide +kernel
theorem dL_baseOf_8 : decode cL_baseOf 8 = .ok (.lastore, 1) := by decide +kernel
theorem dL_baseOf_9 : decode cL_baseOf 9 = .ok (.goto 6, 3) := by decide +kernel
theorem dL_baseOf_12 : decode cL_baseOf 12 = .ok (.astore_n 3, 1) := by decide +kernel
theorem dL_baseOf_13 : decode cL_baseOf 13 = .ok (.iconst 1, 1) := by decide +kernel
theorem dL_baseOf_14 : decode cL_baseOf 14 = .ok (.ireturn, 1) := by decide +kernel
theorem dL_baseOf_15 : decode cL_baseOf 15 = .ok (.iconst 0, 1) := by decide +kernel
theorem dL_baseOf_16 : decode cL_baseOf 16 = .ok (.ireturn, 1) := by decide +kernel
set_option maxRecDepth 20000 in
theorem ggL_stepsToEll_X1_stepsToEll : GoodIn wsL_stepsToEll wsX1_stepsToEll := goodIn_ca (goodIn_r _ [6, 7, 8, 9, 10, 5, 11, 12, 13, 14, 15, 16, 17, 18, 19, 20, 21, 22, 23, 24, 25, 26] (by decide +kernel) (by decide +kernel)) (goodIn_sub (fun _ h => List.mem_cons_of_mem _ (List.mem_append_right _ h)) (by decide +kernel))
set_option maxRecDepth 20000 in
theorem gL_stepsToEll_X1_stepsToEll : GoodIn wsL_stepsToEll (wsV RL 42 RX1 yX1_stepsToEll wsX1_stepsToEll) := goodIn_app (goodIn_of _ (by decide +kernel)) ggL_stepsToEll_X1_stepsToEll
theorem dL_stepsToEll_0 : decode cL_stepsToEll 0 = .ok (.aload_n 2, 1) := by decide +kernel
theorem dL_stepsToEll_1 : decode cL_stepsToEll 1 = .ok (.iconst 0, 1) := by decide +kernel
theorem dL_stepsToEll_2 : decode cL_stepsToEll 2 = .ok (.aload_n 0, 1) := by decide +kernel
theorem dL_stepsToEll_3 : decode cL_stepsToEll 3 = .ok (.iload_n 1, 1) := by decide +kernel
theorem dL_stepsToEll_4 : decode cL_stepsToEll 4 = .ok (.invokevirtual 42, 3) := by decide +kernel
theorem dL_stepsToEll_7 : decode cL_stepsToEll 7 = .ok (.i2l, 1) := by decide +kernel
theorem dL_stepsToEll_8 : decode cL_stepsToEll 8 = .ok (.lastore, 1) := by decide +kernel
theorem dL_stepsToEll_9 : decode cL_stepsToEll 9 = .ok (.goto 6, 3) := by decide +kernel
theorem dL_stepsToEll_12 : decode cL_stepsToEll 12 = .ok (.astore_n 3, 1) := by decide +kernel
theorem dL_stepsToEll_13 : decode cL_stepsToEll 13 = .ok (.iconst 1, 1) := by decide +kernel
theorem dL_stepsToEll_14 : decode cL_stepsToEll 14 = .ok (.ireturn, 1) := by decide +kernel
theorem dL_stepsToEll_15 : decode cL_stepsToEll 15 = .ok (.iconst 0, 1) := by decide +kernel
theorem dL_stepsToEll_16 : decode cL_stepsToEll 16 = .ok (.ireturn, 1) := by decide +kernel
set_option maxRecDepth 20000 in
theorem ggL_lengthTop_X1_lengthTop : GoodIn wsL_lengthTop wsX1_lengthTop := goodIn_ca (goodIn_r _ [6, 7, 8, 9, 10, 11, 5, 12, 13, 14, 15, 16, 17, 18, 19, 20, 21, 22, 23, 24, 25, 26, 27, 28, 29, 30, 31, 32, 33, 34, 35, 36] (by decide +kernel) (by decide +kernel)) (goodIn_sub (fun _ h => List.mem_cons_of_mem _ (List.mem_append_right _ h)) (by decide +kernel))
set_option maxRecDepth 20000 in
theorem gL_lengthTop_X1_lengthTop : GoodIn wsL_lengthTop (wsV RL 45 RX1 yX1_lengthTop wsX1_lengthTop) := goodIn_app (goodIn_of _ (by decide +kernel)) ggL_lengthTop_X1_lengthTop
theorem dL_lengthTop_0 : decode cL_lengthTop 0 = .ok (.aload_n 2, 1) := by decide +kernel
theorem dL_lengthTop_1 : decode cL_lengthTop 1 = .ok (.iconst 0, 1) := by decide +kernel
theorem dL_lengthTop_2 : decode cL_lengthTop 2 = .ok (.aload_n 0, 1) := by decide +kernel
theorem dL_lengthTop_3 : decode cL_lengthTop 3 = .ok (.iload_n 1, 1) := by decide +kernel
theorem dL_lengthTop_4 : decode cL_lengthTop 4 = .ok (.invokevirtual 45, 3) := by decide +kernel
theorem dL_lengthTop_7 : decode cL_lengthTop 7 = .ok (.lastore, 1) := by decide +kernel
theorem dL_lengthTop_8 : decode cL_lengthTop 8 = .ok (.goto 6, 3) := by decide +kernel
theorem dL_lengthTop_11 : decode cL_lengthTop 11 = .ok (.astore_n 3, 1) := by decide +kernel
theorem dL_lengthTop_12 : decode cL_lengthTop 12 = .ok (.iconst 1, 1) := by decide +kernel
theorem dL_lengthTop_13 : decode cL_lengthTop 13 = .ok (.ireturn, 1) := by decide +kernel
theorem dL_lengthTop_14 : decode cL_lengthTop 14 = .ok (.iconst 0, 1) := by decide +kernel
theorem dL_lengthTop_15 : decode cL_lengthTop 15 = .ok (.ireturn, 1) := by decide +kernel
set_option maxRecDepth 20000 in
theorem ggL_lengthBottom_X1_lengthBottom : GoodIn wsL_lengthBottom wsX1_lengthBottom := goodIn_ca (goodIn_r _ [6, 7, 8, 9, 10, 11, 5, 12, 13, 14, 15, 16, 17, 18, 19, 20, 21, 22, 23, 24, 25, 26, 27, 28, 29, 30, 31, 32, 33, 34, 35, 36] (by decide +kernel) (by decide +kernel)) (goodIn_sub (fun _ h => List.mem_cons_of_mem _ (List.mem_append_right _ h)) (by decide +kernel))
set_option maxRecDepth 20000 in
theorem gL_lengthBottom_X1_lengthBottom : GoodIn wsL_lengthBottom (wsV RL 49 RX1 yX1_lengthBottom wsX1_lengthBottom) := goodIn_app (goodIn_of _ (by decide +kernel)) ggL_lengthBottom_X1_lengthBottom
theorem dL_lengthBottom_0 : decode cL_lengthBottom 0 = .ok (.aload_n 2, 1) := by decide +kernel
theorem dL_lengthBottom_1 : decode cL_lengthBottom 1 = .ok (.iconst 0, 1) := by decide +kernel
theorem dL_lengthBottom_2 : decode cL_lengthBottom 2 = .ok (.aload_n 0, 1) := by decide +kernel
theorem dL_lengthBottom_3 : decode cL_lengthBottom 3 = .ok (.iload_n 1, 1) := by decide +kernel
theorem dL_lengthBottom_4 : decode cL_lengthBottom 4 = .ok (.invokevirtual 49, 3) := by decide +kernel
theorem dL_lengthBottom_7 : decode cL_lengthBottom 7 = .ok (.lastore, 1) := by decide +kernel
theorem dL_lengthBottom_8 : decode cL_lengthBottom 8 = .ok (.goto 6, 3) := by decide +kernel
theorem dL_lengthBottom_11 : decode cL_lengthBottom 11 = .ok (.astore_n 3, 1) := by decide +kernel
theorem dL_lengthBottom_12 : decode cL_lengthBottom 12 = .ok (.iconst 1, 1) := by decide +kernel
theorem dL_lengthBottom_13 : decode cL_lengthBottom 13 = .ok (.ireturn, 1) := by decide +kernel
theorem dL_lengthBottom_14 : decode cL_lengthBottom 14 = .ok (.iconst 0, 1) := by decide +kernel
theorem dL_lengthBottom_15 : decode cL_lengthBottom 15 = .ok (.ireturn, 1) := by decide +kernel
set_option maxRecDepth 20000 in
theorem ggL_isLonger_X1_isLonger : GoodIn wsL_isLonger wsX1_isLonger := goodIn_ca (goodIn_r _ [6, 7, 8, 9, 10, 5, 11, 12, 13, 14, 15, 16, 17, 18, 19, 20, 21, 22, 23, 24, 25, 26] (by decide +kernel) (by decide +kernel)) (goodIn_sub (fun _ h => List.mem_cons_of_mem _ (List.mem_append_right _ h)) (by decide +kernel))
set_option maxRecDepth 20000 in
theorem gL_isLonger_X1_isLonger : GoodIn wsL_isLonger (wsV RL 52 RX1 yX1_isLonger wsX1_isLonger) := goodIn_app (goodIn_of _ (by decide +kernel)) ggL_isLonger_X1_isLonger
theorem dL_isLonger_0 : decode cL_isLonger 0 = .ok (.aload_n 3, 1) := by decide +kernel
theorem dL_isLonger_1 : decode cL_isLonger 1 = .ok (.iconst 0, 1) := by decide +kernel
theorem dL_isLonger_2 : decode cL_isLonger 2 = .ok (.aload_n 0, 1) := by decide +kernel
theorem dL_isLonger_3 : decode cL_isLonger 3 = .ok (.iload_n 1, 1) := by decide +kernel
theorem dL_isLonger_4 : decode cL_isLonger 4 = .ok (.iload_n 2, 1) := by decide +kernel
theorem dL_isLonger_5 : decode cL_isLonger 5 = .ok (.invokevirtual 52, 3) := by decide +kernel
theorem dL_isLonger_8 : decode cL_isLonger 8 = .ok (.ifCond .eq 7, 3) := by decide +kernel
theorem dL_isLonger_11 : decode cL_isLonger 11 = .ok (.lconst 1, 1) := by decide +kernel
theorem dL_isLonger_12 : decode cL_isLonger 12 = .ok (.goto 4, 3) := by decide +kernel
theorem dL_isLonger_15 : decode cL_isLonger 15 = .ok (.lconst 0, 1) := by decide +kernel
theorem dL_isLonger_16 : decode cL_isLonger 16 = .ok (.lastore, 1) := by decide +kernel
theorem dL_isLonger_17 : decode cL_isLonger 17 = .ok (.goto 7, 3) := by decide +kernel
theorem dL_isLonger_20 : decode cL_isLonger 20 = .ok (.astore 4, 2) := by decide +kernel
theorem dL_isLonger_22 : decode cL_isLonger 22 = .ok (.iconst 1, 1) := by decide +kernel
theorem dL_isLonger_23 : decode cL_isLonger 23 = .ok (.ireturn, 1) := by decide +kernel
theorem dL_isLonger_24 : decode cL_isLonger 24 = .ok (.iconst 0, 1) := by decide +kernel
theorem dL_isLonger_25 : decode cL_isLonger 25 = .ok (.ireturn, 1) := by decide +kernel
set_option maxRecDepth 20000 in
theorem ggL_fewestToMeet_X1_fewestToMeet : GoodIn wsL_fewestToMeet wsX1_fewestToMeet := goodIn_ca (goodIn_r _ [6, 7, 8, 9, 10, 5, 11, 12, 13, 14, 15, 16, 17, 18, 19, 20, 21, 22, 23, 24, 25, 26, 27, 28, 29, 30, 31, 32, 33, 34, 35] (by decide +kernel) (by decide +kernel)) (goodIn_sub (fun _ h => List.mem_cons_of_mem _ (List.mem_append_right _ h)) (by decide +kernel))
set_option maxRecDepth 20000 in
theorem gL_fewestToMeet_X1_fewestToMeet : GoodIn wsL_fewestToMeet (wsV RL 56 RX1 yX1_fewestToMeet wsX1_fewestToMeet) := goodIn_app (goodIn_of _ (by decide +kernel)) ggL_fewestToMeet_X1_fewestToMeet
theorem dL_fewestToMeet_0 : decode cL_fewestToMeet 0 = .ok (.aload_n 3, 1) := by decide +kernel
theorem dL_fewestToMeet_1 : decode cL_fewestToMeet 1 = .ok (.iconst 0, 1) := by decide +kernel
theorem dL_fewestToMeet_2 : decode cL_fewestToMeet 2 = .ok (.aload_n 0, 1) := by decide +kernel
theorem dL_fewestToMeet_3 : decode cL_fewestToMeet 3 = .ok (.iload_n 1, 1) := by decide +kernel
theorem dL_fewestToMeet_4 : decode cL_fewestToMeet 4 = .ok (.iload_n 2, 1) := by decide +kernel
theorem dL_fewestToMeet_5 : decode cL_fewestToMeet 5 = .ok (.invokevirtual 56, 3) := by decide +kernel
theorem dL_fewestToMeet_8 : decode cL_fewestToMeet 8 = .ok (.lastore, 1) := by decide +kernel
theorem dL_fewestToMeet_9 : decode cL_fewestToMeet 9 = .ok (.goto 7, 3) := by decide +kernel
theorem dL_fewestToMeet_12 : decode cL_fewestToMeet 12 = .ok (.astore 4, 2) := by decide +kernel
theorem dL_fewestToMeet_14 : decode cL_fewestToMeet 14 = .ok (.iconst 1, 1) := by decide +kernel
theorem dL_fewestToMeet_15 : decode cL_fewestToMeet 15 = .ok (.ireturn, 1) := by decide +kernel
theorem dL_fewestToMeet_16 : decode cL_fewestToMeet 16 = .ok (.iconst 0, 1) := by decide +kernel
theorem dL_fewestToMeet_17 : decode cL_fewestToMeet 17 = .ok (.ireturn, 1) := by decide +kernel
set_option maxRecDepth 20000 in
theorem ggL_convert_X1_convert : GoodIn wsL_convert wsX1_convert := goodIn_ca (goodIn_ca (goodIn_r _ [7, 8, 9, 10, 11, 6, 12, 13, 14, 15, 16, 17, 18, 19, 20, 21, 22, 23, 24, 25, 26, 27, 28, 29, 30, 31, 32, 33, 34, 35] (by decide +kernel) (by decide +kernel)) (goodIn_sub (fun _ h => List.mem_cons_of_mem _ (List.mem_append_left _ (List.mem_append_right _ h))) (by decide +kernel))) (goodIn_sub (fun _ h => List.mem_cons_of_mem _ (List.mem_append_right _ h)) (by decide +kernel))
set_option maxRecDepth 20000 in
theorem gL_convert_X1_convert : GoodIn wsL_convert (wsV RL 60 RX1 yX1_convert wsX1_convert) := goodIn_app (goodIn_of _ (by decide +kernel)) ggL_convert_X1_convert
theorem dL_convert_0 : decode cL_convert 0 = .ok (.aload 4, 2) := by decide +kernel
theorem dL_convert_2 : decode cL_convert 2 = .ok (.iconst 0, 1) := by decide +kernel
theorem dL_convert_3 : decode cL_convert 3 = .ok (.aload_n 0, 1) := by decide +kernel
theorem dL_convert_4 : decode cL_convert 4 = .ok (.iload_n 1, 1) := by decide +kernel
theorem dL_convert_5 : decode cL_convert 5 = .ok (.iload_n 2, 1) := by decide +kernel
theorem dL_convert_6 : decode cL_convert 6 = .ok (.iload_n 3, 1) := by decide +kernel
theorem dL_convert_7 : decode cL_convert 7 = .ok (.invokevirtual 60, 3) := by decide +kernel
theorem dL_convert_10 : decode cL_convert 10 = .ok (.lastore, 1) := by decide +kernel
theorem dL_convert_11 : decode cL_convert 11 = .ok (.goto 11, 3) := by decide +kernel
theorem dL_convert_14 : decode cL_convert 14 = .ok (.astore 5, 2) := by decide +kernel
theorem dL_convert_16 : decode cL_convert 16 = .ok (.iconst 1, 1) := by decide +kernel
theorem dL_convert_17 : decode cL_convert 17 = .ok (.ireturn, 1) := by decide +kernel
theorem dL_convert_18 : decode cL_convert 18 = .ok (.astore 5, 2) := by decide +kernel
theorem dL_convert_20 : decode cL_convert 20 = .ok (.iconst 2, 1) := by decide +kernel
theorem dL_convert_21 : decode cL_convert 21 = .ok (.ireturn, 1) := by decide +kernel
theorem dL_convert_22 : decode cL_convert 22 = .ok (.iconst 0, 1) := by decide +kernel
theorem dL_convert_23 : decode cL_convert 23 = .ok (.ireturn, 1) := by decide +kernel
set_option maxRecDepth 20000 in
theorem ggL_isExact_X1_isExact : GoodIn wsL_isExact wsX1_isExact := goodIn_ca (goodIn_ca (goodIn_r _ [7, 8, 9, 10, 11, 6, 12, 13, 14, 15, 16, 17, 18, 19, 20, 21, 22, 23, 24, 25, 26, 27, 28, 29, 30, 31, 32, 33, 34, 35] (by decide +kernel) (by decide +kernel)) (goodIn_sub (fun _ h => List.mem_cons_of_mem _ (List.mem_append_left _ (List.mem_append_right _ h))) (by decide +kernel))) (goodIn_sub (fun _ h => List.mem_cons_of_mem _ (List.mem_append_right _ h)) (by decide +kernel))
set_option maxRecDepth 20000 in
theorem gL_isExact_X1_isExact : GoodIn wsL_isExact (wsV RL 64 RX1 yX1_isExact wsX1_isExact) := goodIn_app (goodIn_of _ (by decide +kernel)) ggL_isExact_X1_isExact
theorem dL_isExact_0 : decode cL_isExact 0 = .ok (.aload 4, 2) := by decide +kernel
theorem dL_isExact_2 : decode cL_isExact 2 = .ok (.iconst 0, 1) := by decide +kernel
theorem dL_isExact_3 : decode cL_isExact 3 = .ok (.aload_n 0, 1) := by decide +kernel
theorem dL_isExact_4 : decode cL_isExact 4 = .ok (.iload_n 1, 1) := by decide +kernel
theorem dL_isExact_5 : decode cL_isExact 5 = .ok (.iload_n 2, 1) := by decide +kernel
theorem dL_isExact_6 : decode cL_isExact 6 = .ok (.iload_n 3, 1) := by decide +kernel
theorem dL_isExact_7 : decode cL_isExact 7 = .ok (.invokevirtual 64, 3) := by decide +kernel
theorem dL_isExact_10 : decode cL_isExact 10 = .ok (.ifCond .eq 7, 3) := by decide +kernel
theorem dL_isExact_13 : decode cL_isExact 13 = .ok (.lconst 1, 1) := by decide +kernel
theorem dL_isExact_14 : decode cL_isExact 14 = .ok (.goto 4, 3) := by decide +kernel
theorem dL_isExact_17 : decode cL_isExact 17 = .ok (.lconst 0, 1) := by decide +kernel
theorem dL_isExact_18 : decode cL_isExact 18 = .ok (.lastore, 1) := by decide +kernel
theorem dL_isExact_19 : decode cL_isExact 19 = .ok (.goto 11, 3) := by decide +kernel
theorem dL_isExact_22 : decode cL_isExact 22 = .ok (.astore 5, 2) := by decide +kernel
theorem dL_isExact_24 : decode cL_isExact 24 = .ok (.iconst 1, 1) := by decide +kernel
theorem dL_isExact_25 : decode cL_isExact 25 = .ok (.ireturn, 1) := by decide +kernel
theorem dL_isExact_26 : decode cL_isExact 26 = .ok (.astore 5, 2) := by decide +kernel
theorem dL_isExact_28 : decode cL_isExact 28 = .ok (.iconst 2, 1) := by decide +kernel
theorem dL_isExact_29 : decode cL_isExact 29 = .ok (.ireturn, 1) := by decide +kernel
theorem dL_isExact_30 : decode cL_isExact 30 = .ok (.iconst 0, 1) := by decide +kernel
theorem dL_isExact_31 : decode cL_isExact 31 = .ok (.ireturn, 1) := by decide +kernel
set_option maxRecDepth 20000 in
theorem ggL_piecesOf_X1_piecesOf : GoodIn wsL_piecesOf wsX1_piecesOf := goodIn_ca (goodIn_ca (goodIn_r _ [7, 8, 9, 10, 11, 12, 13, 6, 14, 15, 16, 17, 18, 19, 20, 21, 22, 23, 24, 25, 26, 27, 28, 29, 30, 31, 32, 33, 34, 35, 36, 37, 38, 39, 40, 41, 42, 43] (by decide +kernel) (by decide +kernel)) (goodIn_sub (fun _ h => List.mem_cons_of_mem _ (List.mem_append_left _ (List.mem_append_right _ h))) (by decide +kernel))) (goodIn_sub (fun _ h => List.mem_cons_of_mem _ (List.mem_append_right _ h)) (by decide +kernel))
set_option maxRecDepth 20000 in
theorem gL_piecesOf_X1_piecesOf : GoodIn wsL_piecesOf (wsV RL 68 RX1 yX1_piecesOf wsX1_piecesOf) := goodIn_app (goodIn_of _ (by decide +kernel)) ggL_piecesOf_X1_piecesOf
theorem dL_piecesOf_0 : decode cL_piecesOf 0 = .ok (.aload 4, 2) := by decide +kernel
theorem dL_piecesOf_2 : decode cL_piecesOf 2 = .ok (.iconst 0, 1) := by decide +kernel
theorem dL_piecesOf_3 : decode cL_piecesOf 3 = .ok (.aload_n 0, 1) := by decide +kernel
theorem dL_piecesOf_4 : decode cL_piecesOf 4 = .ok (.iload_n 1, 1) := by decide +kernel
theorem dL_piecesOf_5 : decode cL_piecesOf 5 = .ok (.iload_n 2, 1) := by decide +kernel
theorem dL_piecesOf_6 : decode cL_piecesOf 6 = .ok (.iload_n 3, 1) := by decide +kernel
theorem dL_piecesOf_7 : decode cL_piecesOf 7 = .ok (.invokevirtual 68, 3) := by decide +kernel
theorem dL_piecesOf_10 : decode cL_piecesOf 10 = .ok (.lastore, 1) := by decide +kernel
theorem dL_piecesOf_11 : decode cL_piecesOf 11 = .ok (.goto 11, 3) := by decide +kernel
theorem dL_piecesOf_14 : decode cL_piecesOf 14 = .ok (.astore 5, 2) := by decide +kernel
theorem dL_piecesOf_16 : decode cL_piecesOf 16 = .ok (.iconst 1, 1) := by decide +kernel
theorem dL_piecesOf_17 : decode cL_piecesOf 17 = .ok (.ireturn, 1) := by decide +kernel
theorem dL_piecesOf_18 : decode cL_piecesOf 18 = .ok (.astore 5, 2) := by decide +kernel
theorem dL_piecesOf_20 : decode cL_piecesOf 20 = .ok (.iconst 2, 1) := by decide +kernel
theorem dL_piecesOf_21 : decode cL_piecesOf 21 = .ok (.ireturn, 1) := by decide +kernel
theorem dL_piecesOf_22 : decode cL_piecesOf 22 = .ok (.iconst 0, 1) := by decide +kernel
theorem dL_piecesOf_23 : decode cL_piecesOf 23 = .ok (.ireturn, 1) := by decide +kernel
set_option maxRecDepth 20000 in
theorem ggL_pieces_X1_pieces : GoodIn wsL_pieces wsX1_pieces := goodIn_ca (goodIn_ca (goodIn_r _ [7, 8, 9, 10, 11, 12, 6, 13, 14, 15, 16, 17, 18, 19, 20, 21, 22, 23, 24, 25, 26, 27, 28, 29, 30, 31, 32, 33, 34, 35, 36, 37, 38, 39, 40, 41, 42, 43] (by decide +kernel) (by decide +kernel)) (goodIn_sub (fun _ h => List.mem_cons_of_mem _ (List.mem_append_left _ (List.mem_append_right _ h))) (by decide +kernel))) (goodIn_sub (fun _ h => List.mem_cons_of_mem _ (List.mem_append_right _ h)) (by decide +kernel))
set_option maxRecDepth 20000 in
theorem gL_pieces_X1_pieces : GoodIn wsL_pieces (wsV RL 71 RX1 yX1_pieces wsX1_pieces) := goodIn_app (goodIn_of _ (by decide +kernel)) ggL_pieces_X1_pieces
theorem dL_pieces_0 : decode cL_pieces 0 = .ok (.aload_n 3, 1) := by decide +kernel
theorem dL_pieces_1 : decode cL_pieces 1 = .ok (.iconst 0, 1) := by decide +kernel
theorem dL_pieces_2 : decode cL_pieces 2 = .ok (.aload_n 0, 1) := by decide +kernel
theorem dL_pieces_3 : decode cL_pieces 3 = .ok (.iload_n 1, 1) := by decide +kernel
theorem dL_pieces_4 : decode cL_pieces 4 = .ok (.iload_n 2, 1) := by decide +kernel
theorem dL_pieces_5 : decode cL_pieces 5 = .ok (.invokevirtual 71, 3) := by decide +kernel
theorem dL_pieces_8 : decode cL_pieces 8 = .ok (.lastore, 1) := by decide +kernel
theorem dL_pieces_9 : decode cL_pieces 9 = .ok (.goto 11, 3) := by decide +kernel
theorem dL_pieces_12 : decode cL_pieces 12 = .ok (.astore 4, 2) := by decide +kernel
theorem dL_pieces_14 : decode cL_pieces 14 = .ok (.iconst 1, 1) := by decide +kernel
theorem dL_pieces_15 : decode cL_pieces 15 = .ok (.ireturn, 1) := by decide +kernel
theorem dL_pieces_16 : decode cL_pieces 16 = .ok (.astore 4, 2) := by decide +kernel
theorem dL_pieces_18 : decode cL_pieces 18 = .ok (.iconst 2, 1) := by decide +kernel
theorem dL_pieces_19 : decode cL_pieces 19 = .ok (.ireturn, 1) := by decide +kernel
theorem dL_pieces_20 : decode cL_pieces 20 = .ok (.iconst 0, 1) := by decide +kernel
theorem dL_pieces_21 : decode cL_pieces 21 = .ok (.ireturn, 1) := by decide +kernel
set_option maxRecDepth 20000 in
theorem ggL_isTold_X1_isTold : GoodIn wsL_isTold wsX1_isTold := goodIn_ca (goodIn_ca (goodIn_r _ [7, 8, 9, 10, 11, 12, 6, 13, 14, 15, 16, 17, 18, 19, 20, 21, 22, 23, 24, 25, 26, 27, 28, 29, 30, 31, 32, 33, 34, 35, 36, 37, 38, 39, 40] (by decide +kernel) (by decide +kernel)) (goodIn_sub (fun _ h => List.mem_cons_of_mem _ (List.mem_append_left _ (List.mem_append_right _ h))) (by decide +kernel))) (goodIn_sub (fun _ h => List.mem_cons_of_mem _ (List.mem_append_right _ h)) (by decide +kernel))
set_option maxRecDepth 20000 in
theorem gL_isTold_X1_isTold : GoodIn wsL_isTold (wsV RL 74 RX1 yX1_isTold wsX1_isTold) := goodIn_app (goodIn_of _ (by decide +kernel)) ggL_isTold_X1_isTold
theorem dL_isTold_0 : decode cL_isTold 0 = .ok (.aload_n 3, 1) := by decide +kernel
theorem dL_isTold_1 : decode cL_isTold 1 = .ok (.iconst 0, 1) := by decide +kernel
theorem dL_isTold_2 : decode cL_isTold 2 = .ok (.aload_n 0, 1) := by decide +kernel
theorem dL_isTold_3 : decode cL_isTold 3 = .ok (.iload_n 1, 1) := by decide +kernel
theorem dL_isTold_4 : decode cL_isTold 4 = .ok (.iload_n 2, 1) := by decide +kernel
theorem dL_isTold_5 : decode cL_isTold 5 = .ok (.invokevirtual 74, 3) := by decide +kernel
theorem dL_isTold_8 : decode cL_isTold 8 = .ok (.ifCond .eq 7, 3) := by decide +kernel
theorem dL_isTold_11 : decode cL_isTold 11 = .ok (.lconst 1, 1) := by decide +kernel
theorem dL_isTold_12 : decode cL_isTold 12 = .ok (.goto 4, 3) := by decide +kernel
theorem dL_isTold_15 : decode cL_isTold 15 = .ok (.lconst 0, 1) := by decide +kernel
theorem dL_isTold_16 : decode cL_isTold 16 = .ok (.lastore, 1) := by decide +kernel
theorem dL_isTold_17 : decode cL_isTold 17 = .ok (.goto 11, 3) := by decide +kernel
theorem dL_isTold_20 : decode cL_isTold 20 = .ok (.astore 4, 2) := by decide +kernel
theorem dL_isTold_22 : decode cL_isTold 22 = .ok (.iconst 1, 1) := by decide +kernel
theorem dL_isTold_23 : decode cL_isTold 23 = .ok (.ireturn, 1) := by decide +kernel
theorem dL_isTold_24 : decode cL_isTold 24 = .ok (.astore 4, 2) := by decide +kernel
theorem dL_isTold_26 : decode cL_isTold 26 = .ok (.iconst 2, 1) := by decide +kernel
theorem dL_isTold_27 : decode cL_isTold 27 = .ok (.ireturn, 1) := by decide +kernel
theorem dL_isTold_28 : decode cL_isTold 28 = .ok (.iconst 0, 1) := by decide +kernel
theorem dL_isTold_29 : decode cL_isTold 29 = .ok (.ireturn, 1) := by decide +kernel
set_option maxRecDepth 20000 in
theorem ggL_bestMeasure_X1_bestMeasure : GoodIn wsL_bestMeasure wsX1_bestMeasure := goodIn_ca (goodIn_ca (goodIn_r _ [7, 8, 9, 10, 11, 12, 13, 6, 14, 15, 16, 17, 18, 19, 20, 21, 22, 23, 24, 25, 26, 27, 28, 29, 30, 31, 32, 33, 34, 35, 36, 37, 38, 39, 40] (by decide +kernel) (by decide +kernel)) (goodIn_sub (fun _ h => List.mem_cons_of_mem _ (List.mem_append_left _ (List.mem_append_right _ h))) (by decide +kernel))) (goodIn_sub (fun _ h => List.mem_cons_of_mem _ (List.mem_append_right _ h)) (by decide +kernel))
set_option maxRecDepth 20000 in
theorem gL_bestMeasure_X1_bestMeasure : GoodIn wsL_bestMeasure (wsV RL 77 RX1 yX1_bestMeasure wsX1_bestMeasure) := goodIn_app (goodIn_of _ (by decide +kernel)) ggL_bestMeasure_X1_bestMeasure
theorem dL_bestMeasure_0 : decode cL_bestMeasure 0 = .ok (.aload_n 3, 1) := by decide +kernel
theorem dL_bestMeasure_1 : decode cL_bestMeasure 1 = .ok (.iconst 0, 1) := by decide +kernel
theorem dL_bestMeasure_2 : decode cL_bestMeasure 2 = .ok (.aload_n 0, 1) := by decide +kernel
theorem dL_bestMeasure_3 : decode cL_bestMeasure 3 = .ok (.iload_n 1, 1) := by decide +kernel
theorem dL_bestMeasure_4 : decode cL_bestMeasure 4 = .ok (.iload_n 2, 1) := by decide +kernel
theorem dL_bestMeasure_5 : decode cL_bestMeasure 5 = .ok (.invokevirtual 77, 3) := by decide +kernel
theorem dL_bestMeasure_8 : decode cL_bestMeasure 8 = .ok (.i2l, 1) := by decide +kernel
theorem dL_bestMeasure_9 : decode cL_bestMeasure 9 = .ok (.lastore, 1) := by decide +kernel
theorem dL_bestMeasure_10 : decode cL_bestMeasure 10 = .ok (.goto 11, 3) := by decide +kernel
theorem dL_bestMeasure_13 : decode cL_bestMeasure 13 = .ok (.astore 4, 2) := by decide +kernel
theorem dL_bestMeasure_15 : decode cL_bestMeasure 15 = .ok (.iconst 1, 1) := by decide +kernel
theorem dL_bestMeasure_16 : decode cL_bestMeasure 16 = .ok (.ireturn, 1) := by decide +kernel
theorem dL_bestMeasure_17 : decode cL_bestMeasure 17 = .ok (.astore 4, 2) := by decide +kernel
theorem dL_bestMeasure_19 : decode cL_bestMeasure 19 = .ok (.iconst 2, 1) := by decide +kernel
theorem dL_bestMeasure_20 : decode cL_bestMeasure 20 = .ok (.ireturn, 1) := by decide +kernel
theorem dL_bestMeasure_21 : decode cL_bestMeasure 21 = .ok (.iconst 0, 1) := by decide +kernel
theorem dL_bestMeasure_22 : decode cL_bestMeasure 22 = .ok (.ireturn, 1) := by decide +kernel
set_option maxRecDepth 20000 in
theorem ggL_driftOf_X1_driftOf : GoodIn wsL_driftOf wsX1_driftOf := goodIn_ca (goodIn_r _ [6, 7, 8, 9, 10, 5, 11, 12, 13, 14, 15, 16, 17, 18, 19, 20, 21, 22, 23, 24, 25, 26, 27, 28, 29, 30] (by decide +kernel) (by decide +kernel)) (goodIn_sub (fun _ h => List.mem_cons_of_mem _ (List.mem_append_right _ h)) (by decide +kernel))
set_option maxRecDepth 20000 in
theorem gL_driftOf_X1_driftOf : GoodIn wsL_driftOf (wsV RL 80 RX1 yX1_driftOf wsX1_driftOf) := goodIn_app (goodIn_of _ (by decide +kernel)) ggL_driftOf_X1_driftOf
theorem dL_driftOf_0 : decode cL_driftOf 0 = .ok (.aload_n 2, 1) := by decide +kernel
theorem dL_driftOf_1 : decode cL_driftOf 1 = .ok (.iconst 0, 1) := by decide +kernel
theorem dL_driftOf_2 : decode cL_driftOf 2 = .ok (.aload_n 0, 1) := by decide +kernel
theorem dL_driftOf_3 : decode cL_driftOf 3 = .ok (.iload_n 1, 1) := by decide +kernel
theorem dL_driftOf_4 : decode cL_driftOf 4 = .ok (.invokevirtual 80, 3) := by decide +kernel
theorem dL_driftOf_7 : decode cL_driftOf 7 = .ok (.i2l, 1) := by decide +kernel
theorem dL_driftOf_8 : decode cL_driftOf 8 = .ok (.lastore, 1) := by decide +kernel
theorem dL_driftOf_9 : decode cL_driftOf 9 = .ok (.goto 6, 3) := by decide +kernel
theorem dL_driftOf_12 : decode cL_driftOf 12 = .ok (.astore_n 3, 1) := by decide +kernel
theorem dL_driftOf_13 : decode cL_driftOf 13 = .ok (.iconst 1, 1) := by decide +kernel
theorem dL_driftOf_14 : decode cL_driftOf 14 = .ok (.ireturn, 1) := by decide +kernel
theorem dL_driftOf_15 : decode cL_driftOf 15 = .ok (.iconst 0, 1) := by decide +kernel
theorem dL_driftOf_16 : decode cL_driftOf 16 = .ok (.ireturn, 1) := by decide +kernel
set_option maxRecDepth 20000 in
theorem ggL_wearOf_X1_wearOf : GoodIn wsL_wearOf wsX1_wearOf := goodIn_ca (goodIn_r _ [6, 7, 8, 9, 10, 5, 11, 12, 13, 14, 15, 16, 17, 18, 19, 20, 21, 22, 23, 24, 25, 26, 27, 28, 29, 30] (by decide +kernel) (by decide +kernel)) (goodIn_sub (fun _ h => List.mem_cons_of_mem _ (List.mem_append_right _ h)) (by decide +kernel))
set_option maxRecDepth 20000 in
theorem gL_wearOf_X1_wearOf : GoodIn wsL_wearOf (wsV RL 83 RX1 yX1_wearOf wsX1_wearOf) := goodIn_app (goodIn_of _ (by decide +kernel)) ggL_wearOf_X1_wearOf
theorem dL_wearOf_0 : decode cL_wearOf 0 = .ok (.aload_n 2, 1) := by decide +kernel
theorem dL_wearOf_1 : decode cL_wearOf 1 = .ok (.iconst 0, 1) := by decide +kernel
theorem dL_wearOf_2 : decode cL_wearOf 2 = .ok (.aload_n 0, 1) := by decide +kernel
theorem dL_wearOf_3 : decode cL_wearOf 3 = .ok (.iload_n 1, 1) := by decide +kernel
theorem dL_wearOf_4 : decode cL_wearOf 4 = .ok (.invokevirtual 83, 3) := by decide +kernel
theorem dL_wearOf_7 : decode cL_wearOf 7 = .ok (.i2l, 1) := by decide +kernel
theorem dL_wearOf_8 : decode cL_wearOf 8 = .ok (.lastore, 1) := by decide +kernel
theorem dL_wearOf_9 : decode cL_wearOf 9 = .ok (.goto 6, 3) := by decide +kernel
theorem dL_wearOf_12 : decode cL_wearOf 12 = .ok (.astore_n 3, 1) := by decide +kernel
theorem dL_wearOf_13 : decode cL_wearOf 13 = .ok (.iconst 1, 1) := by decide +kernel
theorem dL_wearOf_14 : decode cL_wearOf 14 = .ok (.ireturn, 1) := by decide +kernel
theorem dL_wearOf_15 : decode cL_wearOf 15 = .ok (.iconst 0, 1) := by decide +kernel
theorem dL_wearOf_16 : decode cL_wearOf 16 = .ok (.ireturn, 1) := by decide +kernel
set_option maxRecDepth 20000 in
theorem ggL_isHonest_X1_isHonest : GoodIn wsL_isHonest wsX1_isHonest := goodIn_ca (goodIn_r _ [6, 7, 8, 9, 10, 5, 11, 12, 13, 14, 15, 16, 17, 18, 19, 20, 21, 22, 23, 24, 25, 26, 27, 28, 29, 30, 31, 32, 33, 34, 35, 36, 37, 38, 39] (by decide +kernel) (by decide +kernel)) (goodIn_sub (fun _ h => List.mem_cons_of_mem _ (List.mem_append_right _ h)) (by decide +kernel))
set_option maxRecDepth 20000 in
theorem gL_isHonest_X1_isHonest : GoodIn wsL_isHonest (wsV RL 86 RX1 yX1_isHonest wsX1_isHonest) := goodIn_app (goodIn_of _ (by decide +kernel)) ggL_isHonest_X1_isHonest
theorem dL_isHonest_0 : decode cL_isHonest 0 = .ok (.aload_n 2, 1) := by decide +kernel
theorem dL_isHonest_1 : decode cL_isHonest 1 = .ok (.iconst 0, 1) := by decide +kernel
theorem dL_isHonest_2 : decode cL_isHonest 2 = .ok (.aload_n 0, 1) := by decide +kernel
theorem dL_isHonest_3 : decode cL_isHonest 3 = .ok (.iload_n 1, 1) := by decide +kernel
theorem dL_isHonest_4 : decode cL_isHonest 4 = .ok (.invokevirtual 86, 3) := by decide +kernel
theorem dL_isHonest_7 : decode cL_isHonest 7 = .ok (.ifCond .eq 7, 3) := by decide +kernel
theorem dL_isHonest_10 : decode cL_isHonest 10 = .ok (.lconst 1, 1) := by decide +kernel
theorem dL_isHonest_11 : decode cL_isHonest 11 = .ok (.goto 4, 3) := by decide +kernel
theorem dL_isHonest_14 : decode cL_isHonest 14 = .ok (.lconst 0, 1) := by decide +kernel
theorem dL_isHonest_15 : decode cL_isHonest 15 = .ok (.lastore, 1) := by decide +kernel
theorem dL_isHonest_16 : decode cL_isHonest 16 = .ok (.goto 6, 3) := by decide +kernel
theorem dL_isHonest_19 : decode cL_isHonest 19 = .ok (.astore_n 3, 1) := by decide +kernel
theorem dL_isHonest_20 : decode cL_isHonest 20 = .ok (.iconst 1, 1) := by decide +kernel
theorem dL_isHonest_21 : decode cL_isHonest 21 = .ok (.ireturn, 1) := by decide +kernel
theorem dL_isHonest_22 : decode cL_isHonest 22 = .ok (.iconst 0, 1) := by decide +kernel
theorem dL_isHonest_23 : decode cL_isHonest 23 = .ok (.ireturn, 1) := by decide +kernel
set_option maxRecDepth 20000 in
theorem ggL_getsAt_X1_getsAt : GoodIn wsL_getsAt wsX1_getsAt := goodIn_ca (goodIn_ca (goodIn_r _ [7, 8, 9, 10, 11, 6, 12, 13, 14, 15, 16, 17, 18, 19, 20, 21, 22, 23, 24, 25, 26, 27, 28, 29, 30, 31, 32, 33, 34, 35, 36, 37, 38, 39, 40, 41, 42, 43, 44, 45, 46, 47, 48, 49, 50] (by decide +kernel) (by decide +kernel)) (goodIn_sub (fun _ h => List.mem_cons_of_mem _ (List.mem_append_left _ (List.mem_append_right _ h))) (by decide +kernel))) (goodIn_sub (fun _ h => List.mem_cons_of_mem _ (List.mem_append_right _ h)) (by decide +kernel))
set_option maxRecDepth 20000 in
theorem gL_getsAt_X1_getsAt : GoodIn wsL_getsAt (wsV RL 90 RX1 yX1_getsAt wsX1_getsAt) := goodIn_app (goodIn_of _ (by decide +kernel)) ggL_getsAt_X1_getsAt
theorem dL_getsAt_0 : decode cL_getsAt 0 = .ok (.aload 4, 2) := by decide +kernel
theorem dL_getsAt_2 : decode cL_getsAt 2 = .ok (.iconst 0, 1) := by decide +kernel
theorem dL_getsAt_3 : decode cL_getsAt 3 = .ok (.aload_n 0, 1) := by decide +kernel
theorem dL_getsAt_4 : decode cL_getsAt 4 = .ok (.iload_n 1, 1) := by decide +kernel
theorem dL_getsAt_5 : decode cL_getsAt 5 = .ok (.iload_n 2, 1) := by decide +kernel
theorem dL_getsAt_6 : decode cL_getsAt 6 = .ok (.iload_n 3, 1) := by decide +kernel
theorem dL_getsAt_7 : decode cL_getsAt 7 = .ok (.invokevirtual 90, 3) := by decide +kernel
theorem dL_getsAt_10 : decode cL_getsAt 10 = .ok (.lastore, 1) := by decide +kernel
theorem dL_getsAt_11 : decode cL_getsAt 11 = .ok (.goto 11, 3) := by decide +kernel
theorem dL_getsAt_14 : decode cL_getsAt 14 = .ok (.astore 5, 2) := by decide +kernel
theorem dL_getsAt_16 : decode cL_getsAt 16 = .ok (.iconst 1, 1) := by decide +kernel
theorem dL_getsAt_17 : decode cL_getsAt 17 = .ok (.ireturn, 1) := by decide +kernel
theorem dL_getsAt_18 : decode cL_getsAt 18 = .ok (.astore 5, 2) := by decide +kernel
theorem dL_getsAt_20 : decode cL_getsAt 20 = .ok (.iconst 2, 1) := by decide +kernel
theorem dL_getsAt_21 : decode cL_getsAt 21 = .ok (.ireturn, 1) := by decide +kernel
theorem dL_getsAt_22 : decode cL_getsAt 22 = .ok (.iconst 0, 1) := by decide +kernel
theorem dL_getsAt_23 : decode cL_getsAt 23 = .ok (.ireturn, 1) := by decide +kernel
set_option maxRecDepth 20000 in
theorem ggL_lossAt_X1_lossAt : GoodIn wsL_lossAt wsX1_lossAt := goodIn_ca (goodIn_ca (goodIn_r _ [7, 8, 9, 10, 11, 6, 12, 13, 14, 15, 16, 17, 18, 19, 20, 21, 22, 23, 24, 25, 26, 27, 28, 29, 30, 31, 32, 33, 34, 35, 36, 37, 38, 39, 40, 41, 42, 43, 44, 45, 46, 47, 48, 49, 50] (by decide +kernel) (by decide +kernel)) (goodIn_sub (fun _ h => List.mem_cons_of_mem _ (List.mem_append_left _ (List.mem_append_right _ h))) (by decide +kernel))) (goodIn_sub (fun _ h => List.mem_cons_of_mem _ (List.mem_append_right _ h)) (by decide +kernel))
set_option maxRecDepth 20000 in
theorem gL_lossAt_X1_lossAt : GoodIn wsL_lossAt (wsV RL 93 RX1 yX1_lossAt wsX1_lossAt) := goodIn_app (goodIn_of _ (by decide +kernel)) ggL_lossAt_X1_lossAt
theorem dL_lossAt_0 : decode cL_lossAt 0 = .ok (.aload 4, 2) := by decide +kernel
theorem dL_lossAt_2 : decode cL_lossAt 2 = .ok (.iconst 0, 1) := by decide +kernel
theorem dL_lossAt_3 : decode cL_lossAt 3 = .ok (.aload_n 0, 1) := by decide +kernel
theorem dL_lossAt_4 : decode cL_lossAt 4 = .ok (.iload_n 1, 1) := by decide +kernel
theorem dL_lossAt_5 : decode cL_lossAt 5 = .ok (.iload_n 2, 1) := by decide +kernel
theorem dL_lossAt_6 : decode cL_lossAt 6 = .ok (.iload_n 3, 1) := by decide +kernel
theorem dL_lossAt_7 : decode cL_lossAt 7 = .ok (.invokevirtual 93, 3) := by decide +kernel
theorem dL_lossAt_10 : decode cL_lossAt 10 = .ok (.lastore, 1) := by decide +kernel
theorem dL_lossAt_11 : decode cL_lossAt 11 = .ok (.goto 11, 3) := by decide +kernel
theorem dL_lossAt_14 : decode cL_lossAt 14 = .ok (.astore 5, 2) := by decide +kernel
theorem dL_lossAt_16 : decode cL_lossAt 16 = .ok (.iconst 1, 1) := by decide +kernel
theorem dL_lossAt_17 : decode cL_lossAt 17 = .ok (.ireturn, 1) := by decide +kernel
theorem dL_lossAt_18 : decode cL_lossAt 18 = .ok (.astore 5, 2) := by decide +kernel
theorem dL_lossAt_20 : decode cL_lossAt 20 = .ok (.iconst 2, 1) := by decide +kernel
theorem dL_lossAt_21 : decode cL_lossAt 21 = .ok (.ireturn, 1) := by decide +kernel
theorem dL_lossAt_22 : decode cL_lossAt 22 = .ok (.iconst 0, 1) := by decide +kernel
theorem dL_lossAt_23 : decode cL_lossAt 23 = .ok (.ireturn, 1) := by decide +kernel
set_option maxRecDepth 20000 in
theorem ggL_driftIn_X1_driftIn : GoodIn wsL_driftIn wsX1_driftIn := goodIn_ca (goodIn_ca (goodIn_r _ [7, 8, 9, 10, 11, 12, 6, 13, 14, 15, 16, 17, 18, 19, 20, 21, 22, 23, 24, 25, 26, 27, 28, 29, 30, 31, 32, 33, 34, 35, 36, 37, 38, 39, 40, 41, 42, 43, 44, 45, 46, 47, 48, 49, 50, 51, 52, 53, 54, 55, 56, 57, 58, 59, 60, 61, 62, 63, 64, 65, 66, 67, 68, 69, 70, 71, 72, 73, 74, 75, 76, 77, 78, 79, 80, 81, 82] (by decide +kernel) (by decide +kernel)) (goodIn_sub (fun _ h => List.mem_cons_of_mem _ (List.mem_append_left _ (List.mem_append_right _ h))) (by decide +kernel))) (goodIn_sub (fun _ h => List.mem_cons_of_mem _ (List.mem_append_right _ h)) (by decide +kernel))
set_option maxRecDepth 20000 in
theorem gL_driftIn_X1_driftIn : GoodIn wsL_driftIn (wsV RL 96 RX1 yX1_driftIn wsX1_driftIn) := goodIn_app (goodIn_of _ (by decide +kernel)) ggL_driftIn_X1_driftIn
theorem dL_driftIn_0 : decode cL_driftIn 0 = .ok (.aload_n 3, 1) := by decide +kernel
theorem dL_driftIn_1 : decode cL_driftIn 1 = .ok (.iconst 0, 1) := by decide +kernel
theorem dL_driftIn_2 : decode cL_driftIn 2 = .ok (.aload_n 0, 1) := by decide +kernel
theorem dL_driftIn_3 : decode cL_driftIn 3 = .ok (.iload_n 1, 1) := by decide +kernel
theorem dL_driftIn_4 : decode cL_driftIn 4 = .ok (.iload_n 2, 1) := by decide +kernel
theorem dL_driftIn_5 : decode cL_driftIn 5 = .ok (.invokevirtual 96, 3) := by decide +kernel
theorem dL_driftIn_8 : decode cL_driftIn 8 = .ok (.i2l, 1) := by decide +kernel
theorem dL_driftIn_9 : decode cL_driftIn 9 = .ok (.lastore, 1) := by decide +kernel
theorem dL_driftIn_10 : decode cL_driftIn 10 = .ok (.goto 11, 3) := by decide +kernel
theorem dL_driftIn_13 : decode cL_driftIn 13 = .ok (.astore 4, 2) := by decide +kernel
theorem dL_driftIn_15 : decode cL_driftIn 15 = .ok (.iconst 1, 1) := by decide +kernel
theorem dL_driftIn_16 : decode cL_driftIn 16 = .ok (.ireturn, 1) := by decide +kernel
theorem dL_driftIn_17 : decode cL_driftIn 17 = .ok (.astore 4, 2) := by decide +kernel
theorem dL_driftIn_19 : decode cL_driftIn 19 = .ok (.iconst 2, 1) := by decide +kernel
theorem dL_driftIn_20 : decode cL_driftIn 20 = .ok (.ireturn, 1) := by decide +kernel
theorem dL_driftIn_21 : decode cL_driftIn 21 = .ok (.iconst 0, 1) := by decide +kernel
theorem dL_driftIn_22 : decode cL_driftIn 22 = .ok (.ireturn, 1) := by decide +kernel
set_option maxRecDepth 20000 in
theorem ggL_finesIn_X1_finesIn : GoodIn wsL_finesIn wsX1_finesIn := goodIn_ca (goodIn_r _ [6, 7, 8, 9, 10, 5, 11, 12, 13, 14, 15, 16, 17, 18, 19, 20, 21, 22, 23, 24, 25, 26, 27, 28, 29, 30, 31, 32, 33, 34, 35, 36, 37, 38, 39, 40, 41, 42, 43, 44, 45, 46, 47, 48, 49, 50, 51, 52, 53, 54, 55, 56, 57, 58, 59, 60, 61, 62, 63, 64, 65, 66, 67, 68, 69, 70, 71, 72, 73, 74, 75] (by decide +kernel) (by decide +kernel)) (goodIn_sub (fun _ h => List.mem_cons_of_mem _ (List.mem_append_right _ h)) (by decide +kernel))
set_option maxRecDepth 20000 in
theorem gL_finesIn_X1_finesIn : GoodIn wsL_finesIn (wsV RL 99 RX1 yX1_finesIn wsX1_finesIn) := goodIn_app (goodIn_of _ (by decide +kernel)) ggL_finesIn_X1_finesIn
theorem dL_finesIn_0 : decode cL_finesIn 0 = .ok (.aload_n 2, 1) := by decide +kernel
theorem dL_finesIn_1 : decode cL_finesIn 1 = .ok (.iconst 0, 1) := by decide +kernel
theorem dL_finesIn_2 : decode cL_finesIn 2 = .ok (.aload_n 0, 1) := by decide +kernel
theorem dL_finesIn_3 : decode cL_finesIn 3 = .ok (.iload_n 1, 1) := by decide +kernel
theorem dL_finesIn_4 : decode cL_finesIn 4 = .ok (.invokevirtual 99, 3) := by decide +kernel
theorem dL_finesIn_7 : decode cL_finesIn 7 = .ok (.i2l, 1) := by decide +kernel
theorem dL_finesIn_8 : decode cL_finesIn 8 = .ok (.lastore, 1) := by decide +kernel
theorem dL_finesIn_9 : decode cL_finesIn 9 = .ok (.goto 6, 3) := by decide +kernel
theorem dL_finesIn_12 : decode cL_finesIn 12 = .ok (.astore_n 3, 1) := by decide +kernel
theorem dL_finesIn_13 : decode cL_finesIn 13 = .ok (.iconst 1, 1) := by decide +kernel
theorem dL_finesIn_14 : decode cL_finesIn 14 = .ok (.ireturn, 1) := by decide +kernel
theorem dL_finesIn_15 : decode cL_finesIn 15 = .ok (.iconst 0, 1) := by decide +kernel
theorem dL_finesIn_16 : decode cL_finesIn 16 = .ok (.ireturn, 1) := by decide +kernel
set_option maxRecDepth 20000 in
theorem ggL_daysUntilFined_X1_daysUntilFined : GoodIn wsL_daysUntilFined wsX1_daysUntilFined := goodIn_ca (goodIn_r _ [6, 7, 8, 9, 10, 11, 5, 12, 13, 14, 15, 16, 17, 18, 19, 20, 21, 22, 23, 24, 25, 26, 27, 28, 29, 30, 31, 32, 33, 34, 35, 36, 37, 38, 39, 40, 41, 42, 43, 44, 45, 46, 47, 48, 49, 50, 51, 52, 53, 54, 55, 56, 57, 58, 59, 60, 61, 62, 63, 64, 65, 66, 67, 68, 69, 70, 71, 72] (by decide +kernel) (by decide +kernel)) (goodIn_sub (fun _ h => List.mem_cons_of_mem _ (List.mem_append_right _ h)) (by decide +kernel))
set_option maxRecDepth 20000 in
theorem gL_daysUntilFined_X1_daysUntilFined : GoodIn wsL_daysUntilFined (wsV RL 102 RX1 yX1_daysUntilFined wsX1_daysUntilFined) := goodIn_app (goodIn_of _ (by decide +kernel)) ggL_daysUntilFined_X1_daysUntilFined
theorem dL_daysUntilFined_0 : decode cL_daysUntilFined 0 = .ok (.aload_n 2, 1) := by decide +kernel
theorem dL_daysUntilFined_1 : decode cL_daysUntilFined 1 = .ok (.iconst 0, 1) := by decide +kernel
theorem dL_daysUntilFined_2 : decode cL_daysUntilFined 2 = .ok (.aload_n 0, 1) := by decide +kernel
theorem dL_daysUntilFined_3 : decode cL_daysUntilFined 3 = .ok (.iload_n 1, 1) := by decide +kernel
theorem dL_daysUntilFined_4 : decode cL_daysUntilFined 4 = .ok (.invokevirtual 102, 3) := by decide +kernel
theorem dL_daysUntilFined_7 : decode cL_daysUntilFined 7 = .ok (.i2l, 1) := by decide +kernel
theorem dL_daysUntilFined_8 : decode cL_daysUntilFined 8 = .ok (.lastore, 1) := by decide +kernel
theorem dL_daysUntilFined_9 : decode cL_daysUntilFined 9 = .ok (.goto 6, 3) := by decide +kernel
theorem dL_daysUntilFined_12 : decode cL_daysUntilFined 12 = .ok (.astore_n 3, 1) := by decide +kernel
theorem dL_daysUntilFined_13 : decode cL_daysUntilFined 13 = .ok (.iconst 1, 1) := by decide +kernel
theorem dL_daysUntilFined_14 : decode cL_daysUntilFined 14 = .ok (.ireturn, 1) := by decide +kernel
theorem dL_daysUntilFined_15 : decode cL_daysUntilFined 15 = .ok (.iconst 0, 1) := by decide +kernel
theorem dL_daysUntilFined_16 : decode cL_daysUntilFined 16 = .ok (.ireturn, 1) := by decide +kernel
set_option maxRecDepth 20000 in
theorem ggL_bestDayAt_X1_bestDayAt : GoodIn wsL_bestDayAt wsX1_bestDayAt := goodIn_ca (goodIn_r _ [6, 7, 8, 9, 10, 11, 5, 12, 13, 14, 15, 16, 17, 18, 19, 20, 21, 22, 23, 24, 25, 26, 27, 28, 29, 30, 31, 32, 33, 34, 35, 36, 37, 38, 39, 40, 41, 42, 43, 44, 45, 46, 47, 48, 49, 50, 51, 52, 53, 54, 55, 56, 57, 58, 59, 60, 61, 62, 63, 64, 65, 66, 67, 68, 69, 70, 71, 72] (by decide +kernel) (by decide +kernel)) (goodIn_sub (fun _ h => List.mem_cons_of_mem _ (List.mem_append_right _ h)) (by decide +kernel))
set_option maxRecDepth 20000 in
theorem gL_bestDayAt_X1_bestDayAt : GoodIn wsL_bestDayAt (wsV RL 105 RX1 yX1_bestDayAt wsX1_bestDayAt) := goodIn_app (goodIn_of _ (by decide +kernel)) ggL_bestDayAt_X1_bestDayAt
theorem dL_bestDayAt_0 : decode cL_bestDayAt 0 = .ok (.aload_n 2, 1) := by decide +kernel
theorem dL_bestDayAt_1 : decode cL_bestDayAt 1 = .ok (.iconst 0, 1) := by decide +kernel
theorem dL_bestDayAt_2 : decode cL_bestDayAt 2 = .ok (.aload_n 0, 1) := by decide +kernel
theorem dL_bestDayAt_3 : decode cL_bestDayAt 3 = .ok (.iload_n 1, 1) := by decide +kernel
theorem dL_bestDayAt_4 : decode cL_bestDayAt 4 = .ok (.invokevirtual 105, 3) := by decide +kernel
theorem dL_bestDayAt_7 : decode cL_bestDayAt 7 = .ok (.i2l, 1) := by decide +kernel
theorem dL_bestDayAt_8 : decode cL_bestDayAt 8 = .ok (.lastore, 1) := by decide +kernel
theorem dL_bestDayAt_9 : decode cL_bestDayAt 9 = .ok (.goto 6, 3) := by decide +kernel
theorem dL_bestDayAt_12 : decode cL_bestDayAt 12 = .ok (.astore_n 3, 1) := by decide +kernel
theorem dL_bestDayAt_13 : decode cL_bestDayAt 13 = .ok (.iconst 1, 1) := by decide +kernel
theorem dL_bestDayAt_14 : decode cL_bestDayAt 14 = .ok (.ireturn, 1) := by decide +kernel
theorem dL_bestDayAt_15 : decode cL_bestDayAt 15 = .ok (.iconst 0, 1) := by decide +kernel
theorem dL_bestDayAt_16 : decode cL_bestDayAt 16 = .ok (.ireturn, 1) := by decide +kernel
