theorem dX0_init_0 : decode cX0_init 0 = .ok (.aload_n 0, 1) := by decide +kernel
theorem dX0_init_1 : decode cX0_init 1 = .ok (.invokespecial 3, 3) := by decide +kernel
theorem dX0_init_4 : decode cX0_init 4 = .ok (.aload_n 0, 1) := by decide +kernel
theorem dX0_init_5 : decode cX0_init 5 = .ok (.bipush 6, 2) := by decide +kernel
theorem dX0_init_7 : decode cX0_init 7 = .ok (.newarray .int, 2) := by decide +kernel
theorem dX0_init_9 : decode cX0_init 9 = .ok (.putfield 9, 3) := by decide +kernel
theorem dX0_init_12 : decode cX0_init 12 = .ok (.aload_n 0, 1) := by decide +kernel
theorem dX0_init_13 : decode cX0_init 13 = .ok (.bipush 6, 2) := by decide +kernel
theorem dX0_init_15 : decode cX0_init 15 = .ok (.newarray .int, 2) := by decide +kernel
theorem dX0_init_17 : decode cX0_init 17 = .ok (.putfield 15, 3) := by decide +kernel
theorem dX0_init_20 : decode cX0_init 20 = .ok (.aload_n 0, 1) := by decide +kernel
theorem dX0_init_21 : decode cX0_init 21 = .ok (.bipush 10, 2) := by decide +kernel
theorem dX0_init_23 : decode cX0_init 23 = .ok (.putfield 18, 3) := by decide +kernel
theorem dX0_init_26 : decode cX0_init 26 = .ok (.return_, 1) := by decide +kernel
theorem dX0_coinsPaidIn_0 : decode cX0_coinsPaidIn 0 = .ok (.iconst 0, 1) := by decide +kernel
theorem dX0_coinsPaidIn_1 : decode cX0_coinsPaidIn 1 = .ok (.istore_n 2, 1) := by decide +kernel
theorem dX0_coinsPaidIn_2 : decode cX0_coinsPaidIn 2 = .ok (.iconst 0, 1) := by decide +kernel
theorem dX0_coinsPaidIn_3 : decode cX0_coinsPaidIn 3 = .ok (.istore_n 3, 1) := by decide +kernel
theorem dX0_coinsPaidIn_4 : decode cX0_coinsPaidIn 4 = .ok (.iload_n 3, 1) := by decide +kernel
theorem dX0_coinsPaidIn_5 : decode cX0_coinsPaidIn 5 = .ok (.iload_n 1, 1) := by decide +kernel
theorem dX0_coinsPaidIn_6 : decode cX0_coinsPaidIn 6 = .ok (.if_icmp .ge 16, 3) := by decide +kernel
theorem dX0_coinsPaidIn_9 : decode cX0_coinsPaidIn 9 = .ok (.iload_n 2, 1) := by decide +kernel
theorem dX0_coinsPaidIn_10 : decode cX0_coinsPaidIn 10 = .ok (.aload_n 0, 1) := by decide +kernel
theorem dX0_coinsPaidIn_11 : decode cX0_coinsPaidIn 11 = .ok (.invokevirtual 28, 3) := by decide +kernel
theorem dX0_coinsPaidIn_14 : decode cX0_coinsPaidIn 14 = .ok (.iadd, 1) := by decide +kernel
theorem dX0_coinsPaidIn_15 : decode cX0_coinsPaidIn 15 = .ok (.istore_n 2, 1) := by decide +kernel
theorem dX0_coinsPaidIn_16 : decode cX0_coinsPaidIn 16 = .ok (.iinc 3 1, 3) := by decide +kernel
theorem dX0_coinsPaidIn_19 : decode cX0_coinsPaidIn 19 = .ok (.goto (-15), 3) := by decide +kernel
theorem dX0_coinsPaidIn_22 : decode cX0_coinsPaidIn 22 = .ok (.iload_n 2, 1) := by decide +kernel
theorem dX0_coinsPaidIn_23 : decode cX0_coinsPaidIn 23 = .ok (.ireturn, 1) := by decide +kernel
theorem dX0_coinsPaidNextDay_0 : decode cX0_coinsPaidNextDay 0 = .ok (.iconst 0, 1) := by decide +kernel
theorem dX0_coinsPaidNextDay_1 : decode cX0_coinsPaidNextDay 1 = .ok (.istore_n 1, 1) := by decide +kernel
theorem dX0_coinsPaidNextDay_2 : decode cX0_coinsPaidNextDay 2 = .ok (.iload_n 1, 1) := by decide +kernel
theorem dX0_coinsPaidNextDay_3 : decode cX0_coinsPaidNextDay 3 = .ok (.aload_n 0, 1) := by decide +kernel
theorem dX0_coinsPaidNextDay_4 : decode cX0_coinsPaidNextDay 4 = .ok (.getfield 22, 3) := by decide +kernel
theorem dX0_coinsPaidNextDay_7 : decode cX0_coinsPaidNextDay 7 = .ok (.if_icmp .ge 31, 3) := by decide +kernel
theorem dX0_coinsPaidNextDay_10 : decode cX0_coinsPaidNextDay 10 = .ok (.aload_n 0, 1) := by decide +kernel
theorem dX0_coinsPaidNextDay_11 : decode cX0_coinsPaidNextDay 11 = .ok (.getfield 15, 3) := by decide +kernel
theorem dX0_coinsPaidNextDay_14 : decode cX0_coinsPaidNextDay 14 = .ok (.iload_n 1, 1) := by decide +kernel
theorem dX0_coinsPaidNextDay_15 : decode cX0_coinsPaidNextDay 15 = .ok (.aload_n 0, 1) := by decide +kernel
theorem dX0_coinsPaidNextDay_16 : decode cX0_coinsPaidNextDay 16 = .ok (.getfield 15, 3) := by decide +kernel
theorem dX0_coinsPaidNextDay_19 : decode cX0_coinsPaidNextDay 19 = .ok (.iload_n 1, 1) := by decide +kernel
theorem dX0_coinsPaidNextDay_20 : decode cX0_coinsPaidNextDay 20 = .ok (.iaload, 1) := by decide +kernel
theorem dX0_coinsPaidNextDay_21 : decode cX0_coinsPaidNextDay 21 = .ok (.aload_n 0, 1) := by decide +kernel
theorem dX0_coinsPaidNextDay_22 : decode cX0_coinsPaidNextDay 22 = .ok (.getfield 9, 3) := by decide +kernel
theorem dX0_coinsPaidNextDay_25 : decode cX0_coinsPaidNextDay 25 = .ok (.iload_n 1, 1) := by decide +kernel
theorem dX0_coinsPaidNextDay_26 : decode cX0_coinsPaidNextDay 26 = .ok (.iaload, 1) := by decide +kernel
theorem dX0_coinsPaidNextDay_27 : decode cX0_coinsPaidNextDay 27 = .ok (.iadd, 1) := by decide +kernel
theorem dX0_coinsPaidNextDay_28 : decode cX0_coinsPaidNextDay 28 = .ok (.invokestatic 32, 3) := by decide +kernel
theorem dX0_coinsPaidNextDay_31 : decode cX0_coinsPaidNextDay 31 = .ok (.iastore, 1) := by decide +kernel
theorem dX0_coinsPaidNextDay_32 : decode cX0_coinsPaidNextDay 32 = .ok (.iinc 1 1, 3) := by decide +kernel
theorem dX0_coinsPaidNextDay_35 : decode cX0_coinsPaidNextDay 35 = .ok (.goto (-33), 3) := by decide +kernel
theorem dX0_coinsPaidNextDay_38 : decode cX0_coinsPaidNextDay 38 = .ok (.aload_n 0, 1) := by decide +kernel
theorem dX0_coinsPaidNextDay_39 : decode cX0_coinsPaidNextDay 39 = .ok (.aload_n 0, 1) := by decide +kernel
theorem dX0_coinsPaidNextDay_40 : decode cX0_coinsPaidNextDay 40 = .ok (.invokevirtual 36, 3) := by decide +kernel
theorem dX0_coinsPaidNextDay_43 : decode cX0_coinsPaidNextDay 43 = .ok (.invokevirtual 39, 3) := by decide +kernel
theorem dX0_coinsPaidNextDay_46 : decode cX0_coinsPaidNextDay 46 = .ok (.istore_n 1, 1) := by decide +kernel
theorem dX0_coinsPaidNextDay_47 : decode cX0_coinsPaidNextDay 47 = .ok (.aload_n 0, 1) := by decide +kernel
theorem dX0_coinsPaidNextDay_48 : decode cX0_coinsPaidNextDay 48 = .ok (.dup, 1) := by decide +kernel
theorem dX0_coinsPaidNextDay_49 : decode cX0_coinsPaidNextDay 49 = .ok (.getfield 25, 3) := by decide +kernel
theorem dX0_coinsPaidNextDay_52 : decode cX0_coinsPaidNextDay 52 = .ok (.iconst 1, 1) := by decide +kernel
theorem dX0_coinsPaidNextDay_53 : decode cX0_coinsPaidNextDay 53 = .ok (.iadd, 1) := by decide +kernel
theorem dX0_coinsPaidNextDay_54 : decode cX0_coinsPaidNextDay 54 = .ok (.putfield 25, 3) := by decide +kernel
theorem dX0_coinsPaidNextDay_57 : decode cX0_coinsPaidNextDay 57 = .ok (.iload_n 1, 1) := by decide +kernel
theorem dX0_coinsPaidNextDay_58 : decode cX0_coinsPaidNextDay 58 = .ok (.ireturn, 1) := by decide +kernel
theorem dX0_visited_0 : decode cX0_visited 0 = .ok (.aload_n 0, 1) := by decide +kernel
theorem dX0_visited_1 : decode cX0_visited 1 = .ok (.getfield 22, 3) := by decide +kernel
theorem dX0_visited_4 : decode cX0_visited 4 = .ok (.iconst 1, 1) := by decide +kernel
theorem dX0_visited_5 : decode cX0_visited 5 = .ok (.if_icmp .ge 7, 3) := by decide +kernel
theorem dX0_visited_8 : decode cX0_visited 8 = .ok (.iconst (-1), 1) := by decide +kernel
theorem dX0_visited_9 : decode cX0_visited 9 = .ok (.goto 14, 3) := by decide +kernel
theorem dX0_visited_12 : decode cX0_visited 12 = .ok (.aload_n 0, 1) := by decide +kernel
theorem dX0_visited_13 : decode cX0_visited 13 = .ok (.getfield 25, 3) := by decide +kernel
theorem dX0_visited_16 : decode cX0_visited 16 = .ok (.aload_n 0, 1) := by decide +kernel
theorem dX0_visited_17 : decode cX0_visited 17 = .ok (.getfield 22, 3) := by decide +kernel
theorem dX0_visited_20 : decode cX0_visited 20 = .ok (.invokestatic 42, 3) := by decide +kernel
theorem dX0_visited_23 : decode cX0_visited 23 = .ok (.ireturn, 1) := by decide +kernel
theorem dX0_finedAt_0 : decode cX0_finedAt 0 = .ok (.iload_n 1, 1) := by decide +kernel
theorem dX0_finedAt_1 : decode cX0_finedAt 1 = .ok (.ifCond .lt 24, 3) := by decide +kernel
theorem dX0_finedAt_4 : decode cX0_finedAt 4 = .ok (.iload_n 1, 1) := by decide +kernel
theorem dX0_finedAt_5 : decode cX0_finedAt 5 = .ok (.aload_n 0, 1) := by decide +kernel
theorem dX0_finedAt_6 : decode cX0_finedAt 6 = .ok (.getfield 22, 3) := by decide +kernel
theorem dX0_finedAt_9 : decode cX0_finedAt 9 = .ok (.if_icmp .ge 16, 3) := by decide +kernel
theorem dX0_finedAt_12 : decode cX0_finedAt 12 = .ok (.aload_n 0, 1) := by decide +kernel
theorem dX0_finedAt_13 : decode cX0_finedAt 13 = .ok (.aload_n 0, 1) := by decide +kernel
theorem dX0_finedAt_14 : decode cX0_finedAt 14 = .ok (.getfield 15, 3) := by decide +kernel
theorem dX0_finedAt_17 : decode cX0_finedAt 17 = .ok (.iload_n 1, 1) := by decide +kernel
theorem dX0_finedAt_18 : decode cX0_finedAt 18 = .ok (.iaload, 1) := by decide +kernel
theorem dX0_finedAt_19 : decode cX0_finedAt 19 = .ok (.invokevirtual 48, 3) := by decide +kernel
theorem dX0_finedAt_22 : decode cX0_finedAt 22 = .ok (.ifCond .eq 5, 3) := by decide +kernel
theorem dX0_finedAt_25 : decode cX0_finedAt 25 = .ok (.iconst 0, 1) := by decide +kernel
theorem dX0_finedAt_26 : decode cX0_finedAt 26 = .ok (.ireturn, 1) := by decide +kernel
theorem dX0_finedAt_27 : decode cX0_finedAt 27 = .ok (.aload_n 0, 1) := by decide +kernel
theorem dX0_finedAt_28 : decode cX0_finedAt 28 = .ok (.getfield 15, 3) := by decide +kernel
theorem dX0_finedAt_31 : decode cX0_finedAt 31 = .ok (.iload_n 1, 1) := by decide +kernel
theorem dX0_finedAt_32 : decode cX0_finedAt 32 = .ok (.iaload, 1) := by decide +kernel
theorem dX0_finedAt_33 : decode cX0_finedAt 33 = .ok (.invokestatic 52, 3) := by decide +kernel
theorem dX0_finedAt_36 : decode cX0_finedAt 36 = .ok (.istore_n 2, 1) := by decide +kernel
theorem dX0_finedAt_37 : decode cX0_finedAt 37 = .ok (.aload_n 0, 1) := by decide +kernel
theorem dX0_finedAt_38 : decode cX0_finedAt 38 = .ok (.getfield 15, 3) := by decide +kernel
theorem dX0_finedAt_41 : decode cX0_finedAt 41 = .ok (.iload_n 1, 1) := by decide +kernel
theorem dX0_finedAt_42 : decode cX0_finedAt 42 = .ok (.iconst 0, 1) := by decide +kernel
theorem dX0_finedAt_43 : decode cX0_finedAt 43 = .ok (.iastore, 1) := by decide +kernel
theorem dX0_finedAt_44 : decode cX0_finedAt 44 = .ok (.iload_n 2, 1) := by decide +kernel
theorem dX0_finedAt_45 : decode cX0_finedAt 45 = .ok (.ireturn, 1) := by decide +kernel
theorem dX0_isTolerated_0 : decode cX0_isTolerated 0 = .ok (.iload_n 1, 1) := by decide +kernel
theorem dX0_isTolerated_1 : decode cX0_isTolerated 1 = .ok (.invokestatic 52, 3) := by decide +kernel
theorem dX0_isTolerated_4 : decode cX0_isTolerated 4 = .ok (.aload_n 0, 1) := by decide +kernel
theorem dX0_isTolerated_5 : decode cX0_isTolerated 5 = .ok (.getfield 18, 3) := by decide +kernel
theorem dX0_isTolerated_8 : decode cX0_isTolerated 8 = .ok (.if_icmp .gt 7, 3) := by decide +kernel
theorem dX0_isTolerated_11 : decode cX0_isTolerated 11 = .ok (.iconst 1, 1) := by decide +kernel
theorem dX0_isTolerated_12 : decode cX0_isTolerated 12 = .ok (.goto 4, 3) := by decide +kernel
theorem dX0_isTolerated_15 : decode cX0_isTolerated 15 = .ok (.iconst 0, 1) := by decide +kernel
theorem dX0_isTolerated_16 : decode cX0_isTolerated 16 = .ok (.ireturn, 1) := by decide +kernel
theorem dX0_held_0 : decode cX0_held 0 = .ok (.sipush (-300), 3) := by decide +kernel
theorem dX0_held_3 : decode cX0_held 3 = .ok (.sipush 300, 3) := by decide +kernel
theorem dX0_held_6 : decode cX0_held 6 = .ok (.iload_n 0, 1) := by decide +kernel
theorem dX0_held_7 : decode cX0_held 7 = .ok (.invokestatic 55, 3) := by decide +kernel
theorem dX0_held_10 : decode cX0_held 10 = .ok (.invokestatic 58, 3) := by decide +kernel
theorem dX0_held_13 : decode cX0_held 13 = .ok (.ireturn, 1) := by decide +kernel
theorem dX1_init_0 : decode cX1_init 0 = .ok (.aload_n 0, 1) := by decide +kernel
theorem dX1_init_1 : decode cX1_init 1 = .ok (.invokespecial 1, 3) := by decide +kernel
theorem dX1_init_4 : decode cX1_init 4 = .ok (.aload_n 0, 1) := by decide +kernel
theorem dX1_init_5 : decode cX1_init 5 = .ok (.bipush 8, 2) := by decide +kernel
theorem dX1_init_7 : decode cX1_init 7 = .ok (.newarray .int, 2) := by decide +kernel
theorem dX1_init_9 : decode cX1_init 9 = .ok (.putfield 9, 3) := by decide +kernel
theorem dX1_init_12 : decode cX1_init 12 = .ok (.aload_n 0, 1) := by decide +kernel
theorem dX1_init_13 : decode cX1_init 13 = .ok (.bipush 8, 2) := by decide +kernel
theorem dX1_init_15 : decode cX1_init 15 = .ok (.newarray .int, 2) := by decide +kernel
theorem dX1_init_17 : decode cX1_init 17 = .ok (.putfield 13, 3) := by decide +kernel
theorem dX1_init_20 : decode cX1_init 20 = .ok (.aload_n 0, 1) := by decide +kernel
theorem dX1_init_21 : decode cX1_init 21 = .ok (.bipush 8, 2) := by decide +kernel
theorem dX1_init_23 : decode cX1_init 23 = .ok (.newarray .long, 2) := by decide +kernel
theorem dX1_init_25 : decode cX1_init 25 = .ok (.putfield 16, 3) := by decide +kernel
theorem dX1_init_28 : decode cX1_init 28 = .ok (.aload_n 0, 1) := by decide +kernel
theorem dX1_init_29 : decode cX1_init 29 = .ok (.bipush 8, 2) := by decide +kernel
theorem dX1_init_31 : decode cX1_init 31 = .ok (.newarray .int, 2) := by decide +kernel
theorem dX1_init_33 : decode cX1_init 33 = .ok (.putfield 20, 3) := by decide +kernel
theorem dX1_init_36 : decode cX1_init 36 = .ok (.aload_n 0, 1) := by decide +kernel
theorem dX1_init_37 : decode cX1_init 37 = .ok (.new 23, 3) := by decide +kernel
theorem dX1_init_40 : decode cX1_init 40 = .ok (.dup, 1) := by decide +kernel
theorem dX1_init_41 : decode cX1_init 41 = .ok (.invokespecial 25, 3) := by decide +kernel
theorem dX1_init_44 : decode cX1_init 44 = .ok (.putfield 26, 3) := by decide +kernel
theorem dX1_init_47 : decode cX1_init 47 = .ok (.aload_n 0, 1) := by decide +kernel
theorem dX1_init_48 : decode cX1_init 48 = .ok (.new 23, 3) := by decide +kernel
theorem dX1_init_51 : decode cX1_init 51 = .ok (.dup, 1) := by decide +kernel
theorem dX1_init_52 : decode cX1_init 52 = .ok (.invokespecial 25, 3) := by decide +kernel
theorem dX1_init_55 : decode cX1_init 55 = .ok (.putfield 30, 3) := by decide +kernel
theorem dX1_init_58 : decode cX1_init 58 = .ok (.aload_n 0, 1) := by decide +kernel
theorem dX1_init_59 : decode cX1_init 59 = .ok (.getfield 9, 3) := by decide +kernel
theorem dX1_init_62 : decode cX1_init 62 = .ok (.iconst 0, 1) := by decide +kernel
theorem dX1_init_63 : decode cX1_init 63 = .ok (.iconst (-1), 1) := by decide +kernel
theorem dX1_init_64 : decode cX1_init 64 = .ok (.iastore, 1) := by decide +kernel
theorem dX1_init_65 : decode cX1_init 65 = .ok (.aload_n 0, 1) := by decide +kernel
theorem dX1_init_66 : decode cX1_init 66 = .ok (.getfield 16, 3) := by decide +kernel
theorem dX1_init_69 : decode cX1_init 69 = .ok (.iconst 0, 1) := by decide +kernel
theorem dX1_init_70 : decode cX1_init 70 = .ok (.lconst 1, 1) := by decide +kernel
theorem dX1_init_71 : decode cX1_init 71 = .ok (.lastore, 1) := by decide +kernel
theorem dX1_init_72 : decode cX1_init 72 = .ok (.aload_n 0, 1) := by decide +kernel
theorem dX1_init_73 : decode cX1_init 73 = .ok (.iconst 1, 1) := by decide +kernel
theorem dX1_init_74 : decode cX1_init 74 = .ok (.putfield 33, 3) := by decide +kernel
theorem dX1_init_77 : decode cX1_init 77 = .ok (.aload_n 0, 1) := by decide +kernel
theorem dX1_init_78 : decode cX1_init 78 = .ok (.iconst 0, 1) := by decide +kernel
theorem dX1_init_79 : decode cX1_init 79 = .ok (.putfield 37, 3) := by decide +kernel
theorem dX1_init_82 : decode cX1_init 82 = .ok (.return_, 1) := by decide +kernel
theorem dX1_addMeasure_0 : decode cX1_addMeasure 0 = .ok (.aload_n 0, 1) := by decide +kernel
theorem dX1_addMeasure_1 : decode cX1_addMeasure 1 = .ok (.iload_n 1, 1) := by decide +kernel
theorem dX1_addMeasure_2 : decode cX1_addMeasure 2 = .ok (.invokevirtual 40, 3) := by decide +kernel
theorem dX1_addMeasure_5 : decode cX1_addMeasure 5 = .ok (.iload_n 2, 1) := by decide +kernel
theorem dX1_addMeasure_6 : decode cX1_addMeasure 6 = .ok (.iconst 1, 1) := by decide +kernel
theorem dX1_addMeasure_7 : decode cX1_addMeasure 7 = .ok (.bipush 9, 2) := by decide +kernel
theorem dX1_addMeasure_9 : decode cX1_addMeasure 9 = .ok (.invokestatic 44, 3) := by decide +kernel
theorem dX1_addMeasure_12 : decode cX1_addMeasure 12 = .ok (.ifCond .ne 13, 3) := by decide +kernel
theorem dX1_addMeasure_15 : decode cX1_addMeasure 15 = .ok (.iload_n 3, 1) := by decide +kernel
theorem dX1_addMeasure_16 : decode cX1_addMeasure 16 = .ok (.iconst 1, 1) := by decide +kernel
theorem dX1_addMeasure_17 : decode cX1_addMeasure 17 = .ok (.bipush 9, 2) := by decide +kernel
theorem dX1_addMeasure_19 : decode cX1_addMeasure 19 = .ok (.invokestatic 44, 3) := by decide +kernel
theorem dX1_addMeasure_22 : decode cX1_addMeasure 22 = .ok (.ifCond .eq 13, 3) := by decide +kernel
theorem dX1_addMeasure_25 : decode cX1_addMeasure 25 = .ok (.new 48, 3) := by decide +kernel
theorem dX1_addMeasure_28 : decode cX1_addMeasure 28 = .ok (.dup, 1) := by decide +kernel
theorem dX1_addMeasure_29 : decode cX1_addMeasure 29 = .ok (.ldc 50, 2) := by decide +kernel
theorem dX1_addMeasure_31 : decode cX1_addMeasure 31 = .ok (.invokespecial 52, 3) := by decide +kernel
theorem dX1_addMeasure_34 : decode cX1_addMeasure 34 = .ok (.athrow, 1) := by decide +kernel
theorem dX1_addMeasure_35 : decode cX1_addMeasure 35 = .ok (.aload_n 0, 1) := by decide +kernel
theorem dX1_addMeasure_36 : decode cX1_addMeasure 36 = .ok (.getfield 33, 3) := by decide +kernel
theorem dX1_addMeasure_39 : decode cX1_addMeasure 39 = .ok (.bipush 8, 2) := by decide +kernel
theorem dX1_addMeasure_41 : decode cX1_addMeasure 41 = .ok (.if_icmp .lt 13, 3) := by decide +kernel
theorem dX1_addMeasure_44 : decode cX1_addMeasure 44 = .ok (.new 55, 3) := by decide +kernel
theorem dX1_addMeasure_47 : decode cX1_addMeasure 47 = .ok (.dup, 1) := by decide +kernel
theorem dX1_addMeasure_48 : decode cX1_addMeasure 48 = .ok (.ldc 57, 2) := by decide +kernel
theorem dX1_addMeasure_50 : decode cX1_addMeasure 50 = .ok (.invokespecial 59, 3) := by decide +kernel
theorem dX1_addMeasure_53 : decode cX1_addMeasure 53 = .ok (.athrow, 1) := by decide +kernel
theorem dX1_addMeasure_54 : decode cX1_addMeasure 54 = .ok (.aload_n 0, 1) := by decide +kernel
theorem dX1_addMeasure_55 : decode cX1_addMeasure 55 = .ok (.getfield 33, 3) := by decide +kernel
theorem dX1_addMeasure_58 : decode cX1_addMeasure 58 = .ok (.istore 4, 2) := by decide +kernel
theorem dX1_addMeasure_60 : decode cX1_addMeasure 60 = .ok (.aload_n 0, 1) := by decide +kernel
theorem dX1_addMeasure_61 : decode cX1_addMeasure 61 = .ok (.getfield 16, 3) := by decide +kernel
theorem dX1_addMeasure_64 : decode cX1_addMeasure 64 = .ok (.iload_n 1, 1) := by decide +kernel
theorem dX1_addMeasure_65 : decode cX1_addMeasure 65 = .ok (.laload, 1) := by decide +kernel
theorem dX1_addMeasure_66 : decode cX1_addMeasure 66 = .ok (.iload_n 2, 1) := by decide +kernel
theorem dX1_addMeasure_67 : decode cX1_addMeasure 67 = .ok (.i2l, 1) := by decide +kernel
theorem dX1_addMeasure_68 : decode cX1_addMeasure 68 = .ok (.lmul, 1) := by decide +kernel
theorem dX1_addMeasure_69 : decode cX1_addMeasure 69 = .ok (.lstore 5, 2) := by decide +kernel
theorem dX1_addMeasure_71 : decode cX1_addMeasure 71 = .ok (.aload_n 0, 1) := by decide +kernel
theorem dX1_addMeasure_72 : decode cX1_addMeasure 72 = .ok (.iload_n 3, 1) := by decide +kernel
theorem dX1_addMeasure_73 : decode cX1_addMeasure 73 = .ok (.invokevirtual 60, 3) := by decide +kernel
theorem dX1_addMeasure_76 : decode cX1_addMeasure 76 = .ok (.aload_n 0, 1) := by decide +kernel
theorem dX1_addMeasure_77 : decode cX1_addMeasure 77 = .ok (.getfield 9, 3) := by decide +kernel
theorem dX1_addMeasure_80 : decode cX1_addMeasure 80 = .ok (.iload 4, 2) := by decide +kernel
theorem dX1_addMeasure_82 : decode cX1_addMeasure 82 = .ok (.iload_n 1, 1) := by decide +kernel
theorem dX1_addMeasure_83 : decode cX1_addMeasure 83 = .ok (.iastore, 1) := by decide +kernel
theorem dX1_addMeasure_84 : decode cX1_addMeasure 84 = .ok (.aload_n 0, 1) := by decide +kernel
theorem dX1_addMeasure_85 : decode cX1_addMeasure 85 = .ok (.getfield 13, 3) := by decide +kernel
theorem dX1_addMeasure_88 : decode cX1_addMeasure 88 = .ok (.iload 4, 2) := by decide +kernel
theorem dX1_addMeasure_90 : decode cX1_addMeasure 90 = .ok (.aload_n 0, 1) := by decide +kernel
theorem dX1_addMeasure_91 : decode cX1_addMeasure 91 = .ok (.getfield 13, 3) := by decide +kernel
theorem dX1_addMeasure_94 : decode cX1_addMeasure 94 = .ok (.iload_n 1, 1) := by decide +kernel
theorem dX1_addMeasure_95 : decode cX1_addMeasure 95 = .ok (.iaload, 1) := by decide +kernel
theorem dX1_addMeasure_96 : decode cX1_addMeasure 96 = .ok (.iconst 1, 1) := by decide +kernel
theorem dX1_addMeasure_97 : decode cX1_addMeasure 97 = .ok (.iadd, 1) := by decide +kernel
theorem dX1_addMeasure_98 : decode cX1_addMeasure 98 = .ok (.iastore, 1) := by decide +kernel
theorem dX1_addMeasure_99 : decode cX1_addMeasure 99 = .ok (.aload_n 0, 1) := by decide +kernel
theorem dX1_addMeasure_100 : decode cX1_addMeasure 100 = .ok (.getfield 16, 3) := by decide +kernel
theorem dX1_addMeasure_103 : decode cX1_addMeasure 103 = .ok (.iload 4, 2) := by decide +kernel
theorem dX1_addMeasure_105 : decode cX1_addMeasure 105 = .ok (.lload 5, 2) := by decide +kernel
theorem dX1_addMeasure_107 : decode cX1_addMeasure 107 = .ok (.lastore, 1) := by decide +kernel
theorem dX1_addMeasure_108 : decode cX1_addMeasure 108 = .ok (.aload_n 0, 1) := by decide +kernel
theorem dX1_addMeasure_109 : decode cX1_addMeasure 109 = .ok (.iload 4, 2) := by decide +kernel
theorem dX1_addMeasure_111 : decode cX1_addMeasure 111 = .ok (.iconst 1, 1) := by decide +kernel
theorem dX1_addMeasure_112 : decode cX1_addMeasure 112 = .ok (.iadd, 1) := by decide +kernel
theorem dX1_addMeasure_113 : decode cX1_addMeasure 113 = .ok (.putfield 33, 3) := by decide +kernel
theorem dX1_addMeasure_116 : decode cX1_addMeasure 116 = .ok (.aload_n 0, 1) := by decide +kernel
theorem dX1_addMeasure_117 : decode cX1_addMeasure 117 = .ok (.invokevirtual 63, 3) := by decide +kernel
theorem dX1_addMeasure_120 : decode cX1_addMeasure 120 = .ok (.iload 4, 2) := by decide +kernel
theorem dX1_addMeasure_122 : decode cX1_addMeasure 122 = .ok (.ireturn, 1) := by decide +kernel
theorem dX1_setStandard_0 : decode cX1_setStandard 0 = .ok (.aload_n 0, 1) := by decide +kernel
theorem dX1_setStandard_1 : decode cX1_setStandard 1 = .ok (.iload_n 1, 1) := by decide +kernel
theorem dX1_setStandard_2 : decode cX1_setStandard 2 = .ok (.invokevirtual 40, 3) := by decide +kernel
theorem dX1_setStandard_5 : decode cX1_setStandard 5 = .ok (.aload_n 0, 1) := by decide +kernel
theorem dX1_setStandard_6 : decode cX1_setStandard 6 = .ok (.getfield 37, 3) := by decide +kernel
theorem dX1_setStandard_9 : decode cX1_setStandard 9 = .ok (.istore_n 2, 1) := by decide +kernel
theorem dX1_setStandard_10 : decode cX1_setStandard 10 = .ok (.aload_n 0, 1) := by decide +kernel
theorem dX1_setStandard_11 : decode cX1_setStandard 11 = .ok (.iload_n 1, 1) := by decide +kernel
theorem dX1_setStandard_12 : decode cX1_setStandard 12 = .ok (.putfield 37, 3) := by decide +kernel
theorem dX1_setStandard_15 : decode cX1_setStandard 15 = .ok (.iload_n 2, 1) := by decide +kernel
theorem dX1_setStandard_16 : decode cX1_setStandard 16 = .ok (.ireturn, 1) := by decide +kernel
theorem dX1_addStall_0 : decode cX1_addStall 0 = .ok (.iload_n 1, 1) := by decide +kernel
theorem dX1_addStall_1 : decode cX1_addStall 1 = .ok (.invokestatic 66, 3) := by decide +kernel
theorem dX1_addStall_4 : decode cX1_addStall 4 = .ok (.aload_n 0, 1) := by decide +kernel
theorem dX1_addStall_5 : decode cX1_addStall 5 = .ok (.getfield 26, 3) := by decide +kernel
theorem dX1_addStall_8 : decode cX1_addStall 8 = .ok (.getfield 69, 3) := by decide +kernel
theorem dX1_addStall_11 : decode cX1_addStall 11 = .ok (.bipush 6, 2) := by decide +kernel
theorem dX1_addStall_13 : decode cX1_addStall 13 = .ok (.if_icmp .lt 13, 3) := by decide +kernel
theorem dX1_addStall_16 : decode cX1_addStall 16 = .ok (.new 55, 3) := by decide +kernel
theorem dX1_addStall_19 : decode cX1_addStall 19 = .ok (.dup, 1) := by decide +kernel
theorem dX1_addStall_20 : decode cX1_addStall 20 = .ok (.ldc 72, 2) := by decide +kernel
theorem dX1_addStall_22 : decode cX1_addStall 22 = .ok (.invokespecial 59, 3) := by decide +kernel
theorem dX1_addStall_25 : decode cX1_addStall 25 = .ok (.athrow, 1) := by decide +kernel
theorem dX1_addStall_26 : decode cX1_addStall 26 = .ok (.aload_n 0, 1) := by decide +kernel
theorem dX1_addStall_27 : decode cX1_addStall 27 = .ok (.getfield 26, 3) := by decide +kernel
theorem dX1_addStall_30 : decode cX1_addStall 30 = .ok (.getfield 69, 3) := by decide +kernel
theorem dX1_addStall_33 : decode cX1_addStall 33 = .ok (.istore_n 2, 1) := by decide +kernel
theorem dX1_addStall_34 : decode cX1_addStall 34 = .ok (.aload_n 0, 1) := by decide +kernel
theorem dX1_addStall_35 : decode cX1_addStall 35 = .ok (.getfield 26, 3) := by decide +kernel
theorem dX1_addStall_38 : decode cX1_addStall 38 = .ok (.getfield 74, 3) := by decide +kernel
theorem dX1_addStall_41 : decode cX1_addStall 41 = .ok (.iload_n 2, 1) := by decide +kernel
theorem dX1_addStall_42 : decode cX1_addStall 42 = .ok (.iload_n 1, 1) := by decide +kernel
theorem dX1_addStall_43 : decode cX1_addStall 43 = .ok (.iastore, 1) := by decide +kernel
theorem dX1_addStall_44 : decode cX1_addStall 44 = .ok (.aload_n 0, 1) := by decide +kernel
theorem dX1_addStall_45 : decode cX1_addStall 45 = .ok (.getfield 26, 3) := by decide +kernel
theorem dX1_addStall_48 : decode cX1_addStall 48 = .ok (.getfield 77, 3) := by decide +kernel
theorem dX1_addStall_51 : decode cX1_addStall 51 = .ok (.iload_n 2, 1) := by decide +kernel
theorem dX1_addStall_52 : decode cX1_addStall 52 = .ok (.iconst 0, 1) := by decide +kernel
theorem dX1_addStall_53 : decode cX1_addStall 53 = .ok (.iastore, 1) := by decide +kernel
theorem dX1_addStall_54 : decode cX1_addStall 54 = .ok (.aload_n 0, 1) := by decide +kernel
theorem dX1_addStall_55 : decode cX1_addStall 55 = .ok (.getfield 26, 3) := by decide +kernel
theorem dX1_addStall_58 : decode cX1_addStall 58 = .ok (.iload_n 2, 1) := by decide +kernel
theorem dX1_addStall_59 : decode cX1_addStall 59 = .ok (.iconst 1, 1) := by decide +kernel
theorem dX1_addStall_60 : decode cX1_addStall 60 = .ok (.iadd, 1) := by decide +kernel
theorem dX1_addStall_61 : decode cX1_addStall 61 = .ok (.putfield 69, 3) := by decide +kernel
theorem dX1_addStall_64 : decode cX1_addStall 64 = .ok (.iload_n 2, 1) := by decide +kernel
theorem dX1_addStall_65 : decode cX1_addStall 65 = .ok (.ireturn, 1) := by decide +kernel
theorem dX1_setWear_0 : decode cX1_setWear 0 = .ok (.aload_n 0, 1) := by decide +kernel
theorem dX1_setWear_1 : decode cX1_setWear 1 = .ok (.iload_n 1, 1) := by decide +kernel
theorem dX1_setWear_2 : decode cX1_setWear 2 = .ok (.invokevirtual 80, 3) := by decide +kernel
theorem dX1_setWear_5 : decode cX1_setWear 5 = .ok (.iload_n 2, 1) := by decide +kernel
theorem dX1_setWear_6 : decode cX1_setWear 6 = .ok (.invokestatic 66, 3) := by decide +kernel
theorem dX1_setWear_9 : decode cX1_setWear 9 = .ok (.aload_n 0, 1) := by decide +kernel
theorem dX1_setWear_10 : decode cX1_setWear 10 = .ok (.getfield 26, 3) := by decide +kernel
theorem dX1_setWear_13 : decode cX1_setWear 13 = .ok (.getfield 74, 3) := by decide +kernel
theorem dX1_setWear_16 : decode cX1_setWear 16 = .ok (.iload_n 1, 1) := by decide +kernel
theorem dX1_setWear_17 : decode cX1_setWear 17 = .ok (.iaload, 1) := by decide +kernel
theorem dX1_setWear_18 : decode cX1_setWear 18 = .ok (.istore_n 3, 1) := by decide +kernel
theorem dX1_setWear_19 : decode cX1_setWear 19 = .ok (.aload_n 0, 1) := by decide +kernel
theorem dX1_setWear_20 : decode cX1_setWear 20 = .ok (.getfield 26, 3) := by decide +kernel
theorem dX1_setWear_23 : decode cX1_setWear 23 = .ok (.getfield 74, 3) := by decide +kernel
theorem dX1_setWear_26 : decode cX1_setWear 26 = .ok (.iload_n 1, 1) := by decide +kernel
theorem dX1_setWear_27 : decode cX1_setWear 27 = .ok (.iload_n 2, 1) := by decide +kernel
theorem dX1_setWear_28 : decode cX1_setWear 28 = .ok (.iastore, 1) := by decide +kernel
theorem dX1_setWear_29 : decode cX1_setWear 29 = .ok (.iload_n 3, 1) := by decide +kernel
theorem dX1_setWear_30 : decode cX1_setWear 30 = .ok (.ireturn, 1) := by decide +kernel
theorem dX1_seal_0 : decode cX1_seal 0 = .ok (.aload_n 0, 1) := by decide +kernel
theorem dX1_seal_1 : decode cX1_seal 1 = .ok (.iload_n 1, 1) := by decide +kernel
theorem dX1_seal_2 : decode cX1_seal 2 = .ok (.invokevirtual 80, 3) := by decide +kernel
theorem dX1_seal_5 : decode cX1_seal 5 = .ok (.aload_n 0, 1) := by decide +kernel
theorem dX1_seal_6 : decode cX1_seal 6 = .ok (.getfield 26, 3) := by decide +kernel
theorem dX1_seal_9 : decode cX1_seal 9 = .ok (.getfield 77, 3) := by decide +kernel
theorem dX1_seal_12 : decode cX1_seal 12 = .ok (.iload_n 1, 1) := by decide +kernel
theorem dX1_seal_13 : decode cX1_seal 13 = .ok (.iaload, 1) := by decide +kernel
theorem dX1_seal_14 : decode cX1_seal 14 = .ok (.istore_n 2, 1) := by decide +kernel
theorem dX1_seal_15 : decode cX1_seal 15 = .ok (.aload_n 0, 1) := by decide +kernel
theorem dX1_seal_16 : decode cX1_seal 16 = .ok (.getfield 26, 3) := by decide +kernel
theorem dX1_seal_19 : decode cX1_seal 19 = .ok (.getfield 77, 3) := by decide +kernel
theorem dX1_seal_22 : decode cX1_seal 22 = .ok (.iload_n 1, 1) := by decide +kernel
theorem dX1_seal_23 : decode cX1_seal 23 = .ok (.iconst 0, 1) := by decide +kernel
theorem dX1_seal_24 : decode cX1_seal 24 = .ok (.iastore, 1) := by decide +kernel
theorem dX1_seal_25 : decode cX1_seal 25 = .ok (.iload_n 2, 1) := by decide +kernel
theorem dX1_seal_26 : decode cX1_seal 26 = .ok (.ireturn, 1) := by decide +kernel
theorem dX1_setTolerance_0 : decode cX1_setTolerance 0 = .ok (.iload_n 1, 1) := by decide +kernel
theorem dX1_setTolerance_1 : decode cX1_setTolerance 1 = .ok (.iconst 0, 1) := by decide +kernel
theorem dX1_setTolerance_2 : decode cX1_setTolerance 2 = .ok (.bipush 100, 2) := by decide +kernel
theorem dX1_setTolerance_4 : decode cX1_setTolerance 4 = .ok (.invokestatic 44, 3) := by decide +kernel
theorem dX1_setTolerance_7 : decode cX1_setTolerance 7 = .ok (.ifCond .eq 13, 3) := by decide +kernel
theorem dX1_setTolerance_10 : decode cX1_setTolerance 10 = .ok (.new 48, 3) := by decide +kernel
theorem dX1_setTolerance_13 : decode cX1_setTolerance 13 = .ok (.dup, 1) := by decide +kernel
theorem dX1_setTolerance_14 : decode cX1_setTolerance 14 = .ok (.ldc 83, 2) := by decide +kernel
theorem dX1_setTolerance_16 : decode cX1_setTolerance 16 = .ok (.invokespecial 52, 3) := by decide +kernel
theorem dX1_setTolerance_19 : decode cX1_setTolerance 19 = .ok (.athrow, 1) := by decide +kernel
theorem dX1_setTolerance_20 : decode cX1_setTolerance 20 = .ok (.aload_n 0, 1) := by decide +kernel
theorem dX1_setTolerance_21 : decode cX1_setTolerance 21 = .ok (.getfield 26, 3) := by decide +kernel
theorem dX1_setTolerance_24 : decode cX1_setTolerance 24 = .ok (.getfield 85, 3) := by decide +kernel
theorem dX1_setTolerance_27 : decode cX1_setTolerance 27 = .ok (.istore_n 2, 1) := by decide +kernel
theorem dX1_setTolerance_28 : decode cX1_setTolerance 28 = .ok (.aload_n 0, 1) := by decide +kernel
theorem dX1_setTolerance_29 : decode cX1_setTolerance 29 = .ok (.getfield 26, 3) := by decide +kernel
theorem dX1_setTolerance_32 : decode cX1_setTolerance 32 = .ok (.iload_n 1, 1) := by decide +kernel
theorem dX1_setTolerance_33 : decode cX1_setTolerance 33 = .ok (.putfield 85, 3) := by decide +kernel
theorem dX1_setTolerance_36 : decode cX1_setTolerance 36 = .ok (.iload_n 2, 1) := by decide +kernel
theorem dX1_setTolerance_37 : decode cX1_setTolerance 37 = .ok (.ireturn, 1) := by decide +kernel
theorem dX1_passDays_0 : decode cX1_passDays 0 = .ok (.iload_n 1, 1) := by decide +kernel
theorem dX1_passDays_1 : decode cX1_passDays 1 = .ok (.invokestatic 88, 3) := by decide +kernel
theorem dX1_passDays_4 : decode cX1_passDays 4 = .ok (.aload_n 0, 1) := by decide +kernel
theorem dX1_passDays_5 : decode cX1_passDays 5 = .ok (.getfield 26, 3) := by decide +kernel
theorem dX1_passDays_8 : decode cX1_passDays 8 = .ok (.iload_n 1, 1) := by decide +kernel
theorem dX1_passDays_9 : decode cX1_passDays 9 = .ok (.invokevirtual 91, 3) := by decide +kernel
theorem dX1_passDays_12 : decode cX1_passDays 12 = .ok (.istore_n 2, 1) := by decide +kernel
theorem dX1_passDays_13 : decode cX1_passDays 13 = .ok (.aload_n 0, 1) := by decide +kernel
theorem dX1_passDays_14 : decode cX1_passDays 14 = .ok (.dup, 1) := by decide +kernel
theorem dX1_passDays_15 : decode cX1_passDays 15 = .ok (.getfield 95, 3) := by decide +kernel
theorem dX1_passDays_18 : decode cX1_passDays 18 = .ok (.iload_n 2, 1) := by decide +kernel
theorem dX1_passDays_19 : decode cX1_passDays 19 = .ok (.iadd, 1) := by decide +kernel
theorem dX1_passDays_20 : decode cX1_passDays 20 = .ok (.putfield 95, 3) := by decide +kernel
theorem dX1_passDays_23 : decode cX1_passDays 23 = .ok (.iload_n 2, 1) := by decide +kernel
theorem dX1_passDays_24 : decode cX1_passDays 24 = .ok (.ireturn, 1) := by decide +kernel
theorem dX1_measures_0 : decode cX1_measures 0 = .ok (.aload_n 0, 1) := by decide +kernel
theorem dX1_measures_1 : decode cX1_measures 1 = .ok (.getfield 33, 3) := by decide +kernel
theorem dX1_measures_4 : decode cX1_measures 4 = .ok (.ireturn, 1) := by decide +kernel
theorem dX1_stalls_0 : decode cX1_stalls 0 = .ok (.aload_n 0, 1) := by decide +kernel
theorem dX1_stalls_1 : decode cX1_stalls 1 = .ok (.getfield 26, 3) := by decide +kernel
theorem dX1_stalls_4 : decode cX1_stalls 4 = .ok (.getfield 69, 3) := by decide +kernel
theorem dX1_stalls_7 : decode cX1_stalls 7 = .ok (.ireturn, 1) := by decide +kernel
theorem dX1_days_0 : decode cX1_days 0 = .ok (.aload_n 0, 1) := by decide +kernel
theorem dX1_days_1 : decode cX1_days 1 = .ok (.getfield 26, 3) := by decide +kernel
theorem dX1_days_4 : decode cX1_days 4 = .ok (.getfield 98, 3) := by decide +kernel
theorem dX1_days_7 : decode cX1_days 7 = .ok (.ireturn, 1) := by decide +kernel
theorem dX1_standard_0 : decode cX1_standard 0 = .ok (.aload_n 0, 1) := by decide +kernel
theorem dX1_standard_1 : decode cX1_standard 1 = .ok (.getfield 37, 3) := by decide +kernel
theorem dX1_standard_4 : decode cX1_standard 4 = .ok (.ireturn, 1) := by decide +kernel
theorem dX1_tolerance_0 : decode cX1_tolerance 0 = .ok (.aload_n 0, 1) := by decide +kernel
theorem dX1_tolerance_1 : decode cX1_tolerance 1 = .ok (.getfield 26, 3) := by decide +kernel
theorem dX1_tolerance_4 : decode cX1_tolerance 4 = .ok (.getfield 85, 3) := by decide +kernel
theorem dX1_tolerance_7 : decode cX1_tolerance 7 = .ok (.ireturn, 1) := by decide +kernel
theorem dX1_fines_0 : decode cX1_fines 0 = .ok (.aload_n 0, 1) := by decide +kernel
theorem dX1_fines_1 : decode cX1_fines 1 = .ok (.getfield 95, 3) := by decide +kernel
theorem dX1_fines_4 : decode cX1_fines 4 = .ok (.ireturn, 1) := by decide +kernel
theorem dX1_baseOf_0 : decode cX1_baseOf 0 = .ok (.aload_n 0, 1) := by decide +kernel
theorem dX1_baseOf_1 : decode cX1_baseOf 1 = .ok (.iload_n 1, 1) := by decide +kernel
theorem dX1_baseOf_2 : decode cX1_baseOf 2 = .ok (.invokevirtual 40, 3) := by decide +kernel
theorem dX1_baseOf_5 : decode cX1_baseOf 5 = .ok (.aload_n 0, 1) := by decide +kernel
theorem dX1_baseOf_6 : decode cX1_baseOf 6 = .ok (.getfield 9, 3) := by decide +kernel
theorem dX1_baseOf_9 : decode cX1_baseOf 9 = .ok (.iload_n 1, 1) := by decide +kernel
theorem dX1_baseOf_10 : decode cX1_baseOf 10 = .ok (.iaload, 1) := by decide +kernel
theorem dX1_baseOf_11 : decode cX1_baseOf 11 = .ok (.ireturn, 1) := by decide +kernel
theorem dX1_stepsToEll_0 : decode cX1_stepsToEll 0 = .ok (.aload_n 0, 1) := by decide +kernel
theorem dX1_stepsToEll_1 : decode cX1_stepsToEll 1 = .ok (.iload_n 1, 1) := by decide +kernel
theorem dX1_stepsToEll_2 : decode cX1_stepsToEll 2 = .ok (.invokevirtual 40, 3) := by decide +kernel
theorem dX1_stepsToEll_5 : decode cX1_stepsToEll 5 = .ok (.aload_n 0, 1) := by decide +kernel
theorem dX1_stepsToEll_6 : decode cX1_stepsToEll 6 = .ok (.getfield 13, 3) := by decide +kernel
theorem dX1_stepsToEll_9 : decode cX1_stepsToEll 9 = .ok (.iload_n 1, 1) := by decide +kernel
theorem dX1_stepsToEll_10 : decode cX1_stepsToEll 10 = .ok (.iaload, 1) := by decide +kernel
theorem dX1_stepsToEll_11 : decode cX1_stepsToEll 11 = .ok (.ireturn, 1) := by decide +kernel
theorem dX1_lengthTop_0 : decode cX1_lengthTop 0 = .ok (.aload_n 0, 1) := by decide +kernel
theorem dX1_lengthTop_1 : decode cX1_lengthTop 1 = .ok (.iload_n 1, 1) := by decide +kernel
theorem dX1_lengthTop_2 : decode cX1_lengthTop 2 = .ok (.invokevirtual 40, 3) := by decide +kernel
theorem dX1_lengthTop_5 : decode cX1_lengthTop 5 = .ok (.aload_n 0, 1) := by decide +kernel
theorem dX1_lengthTop_6 : decode cX1_lengthTop 6 = .ok (.getfield 16, 3) := by decide +kernel
theorem dX1_lengthTop_9 : decode cX1_lengthTop 9 = .ok (.iload_n 1, 1) := by decide +kernel
theorem dX1_lengthTop_10 : decode cX1_lengthTop 10 = .ok (.laload, 1) := by decide +kernel
theorem dX1_lengthTop_11 : decode cX1_lengthTop 11 = .ok (.aload_n 0, 1) := by decide +kernel
theorem dX1_lengthTop_12 : decode cX1_lengthTop 12 = .ok (.getfield 16, 3) := by decide +kernel
theorem dX1_lengthTop_15 : decode cX1_lengthTop 15 = .ok (.aload_n 0, 1) := by decide +kernel
theorem dX1_lengthTop_16 : decode cX1_lengthTop 16 = .ok (.getfield 37, 3) := by decide +kernel
theorem dX1_lengthTop_19 : decode cX1_lengthTop 19 = .ok (.laload, 1) := by decide +kernel
theorem dX1_lengthTop_20 : decode cX1_lengthTop 20 = .ok (.invokestatic 101, 3) := by decide +kernel
theorem dX1_lengthTop_23 : decode cX1_lengthTop 23 = .ok (.lreturn, 1) := by decide +kernel
theorem dX1_lengthBottom_0 : decode cX1_lengthBottom 0 = .ok (.aload_n 0, 1) := by decide +kernel
theorem dX1_lengthBottom_1 : decode cX1_lengthBottom 1 = .ok (.iload_n 1, 1) := by decide +kernel
theorem dX1_lengthBottom_2 : decode cX1_lengthBottom 2 = .ok (.invokevirtual 40, 3) := by decide +kernel
theorem dX1_lengthBottom_5 : decode cX1_lengthBottom 5 = .ok (.aload_n 0, 1) := by decide +kernel
theorem dX1_lengthBottom_6 : decode cX1_lengthBottom 6 = .ok (.getfield 16, 3) := by decide +kernel
theorem dX1_lengthBottom_9 : decode cX1_lengthBottom 9 = .ok (.aload_n 0, 1) := by decide +kernel
theorem dX1_lengthBottom_10 : decode cX1_lengthBottom 10 = .ok (.getfield 37, 3) := by decide +kernel
theorem dX1_lengthBottom_13 : decode cX1_lengthBottom 13 = .ok (.laload, 1) := by decide +kernel
theorem dX1_lengthBottom_14 : decode cX1_lengthBottom 14 = .ok (.aload_n 0, 1) := by decide +kernel
theorem dX1_lengthBottom_15 : decode cX1_lengthBottom 15 = .ok (.getfield 16, 3) := by decide +kernel
theorem dX1_lengthBottom_18 : decode cX1_lengthBottom 18 = .ok (.iload_n 1, 1) := by decide +kernel
theorem dX1_lengthBottom_19 : decode cX1_lengthBottom 19 = .ok (.laload, 1) := by decide +kernel
theorem dX1_lengthBottom_20 : decode cX1_lengthBottom 20 = .ok (.invokestatic 101, 3) := by decide +kernel
theorem dX1_lengthBottom_23 : decode cX1_lengthBottom 23 = .ok (.lreturn, 1) := by decide +kernel
theorem dX1_isLonger_0 : decode cX1_isLonger 0 = .ok (.aload_n 0, 1) := by decide +kernel
theorem dX1_isLonger_1 : decode cX1_isLonger 1 = .ok (.iload_n 1, 1) := by decide +kernel
theorem dX1_isLonger_2 : decode cX1_isLonger 2 = .ok (.invokevirtual 40, 3) := by decide +kernel
theorem dX1_isLonger_5 : decode cX1_isLonger 5 = .ok (.aload_n 0, 1) := by decide +kernel
theorem dX1_isLonger_6 : decode cX1_isLonger 6 = .ok (.iload_n 2, 1) := by decide +kernel
theorem dX1_isLonger_7 : decode cX1_isLonger 7 = .ok (.invokevirtual 40, 3) := by decide +kernel
theorem dX1_isLonger_10 : decode cX1_isLonger 10 = .ok (.aload_n 0, 1) := by decide +kernel
theorem dX1_isLonger_11 : decode cX1_isLonger 11 = .ok (.getfield 16, 3) := by decide +kernel
theorem dX1_isLonger_14 : decode cX1_isLonger 14 = .ok (.iload_n 1, 1) := by decide +kernel
theorem dX1_isLonger_15 : decode cX1_isLonger 15 = .ok (.laload, 1) := by decide +kernel
theorem dX1_isLonger_16 : decode cX1_isLonger 16 = .ok (.aload_n 0, 1) := by decide +kernel
theorem dX1_isLonger_17 : decode cX1_isLonger 17 = .ok (.getfield 16, 3) := by decide +kernel
theorem dX1_isLonger_20 : decode cX1_isLonger 20 = .ok (.iload_n 2, 1) := by decide +kernel
theorem dX1_isLonger_21 : decode cX1_isLonger 21 = .ok (.laload, 1) := by decide +kernel
theorem dX1_isLonger_22 : decode cX1_isLonger 22 = .ok (.lcmp, 1) := by decide +kernel
theorem dX1_isLonger_23 : decode cX1_isLonger 23 = .ok (.ifCond .le 7, 3) := by decide +kernel
theorem dX1_isLonger_26 : decode cX1_isLonger 26 = .ok (.iconst 1, 1) := by decide +kernel
theorem dX1_isLonger_27 : decode cX1_isLonger 27 = .ok (.goto 4, 3) := by decide +kernel
theorem dX1_isLonger_30 : decode cX1_isLonger 30 = .ok (.iconst 0, 1) := by decide +kernel
theorem dX1_isLonger_31 : decode cX1_isLonger 31 = .ok (.ireturn, 1) := by decide +kernel
theorem dX1_longest_0 : decode cX1_longest 0 = .ok (.aload_n 0, 1) := by decide +kernel
theorem dX1_longest_1 : decode cX1_longest 1 = .ok (.getfield 20, 3) := by decide +kernel
theorem dX1_longest_4 : decode cX1_longest 4 = .ok (.iconst 0, 1) := by decide +kernel
theorem dX1_longest_5 : decode cX1_longest 5 = .ok (.iaload, 1) := by decide +kernel
theorem dX1_longest_6 : decode cX1_longest 6 = .ok (.ireturn, 1) := by decide +kernel
theorem dX1_shortest_0 : decode cX1_shortest 0 = .ok (.iconst 0, 1) := by decide +kernel
theorem dX1_shortest_1 : decode cX1_shortest 1 = .ok (.istore_n 1, 1) := by decide +kernel
theorem dX1_shortest_2 : decode cX1_shortest 2 = .ok (.iconst 1, 1) := by decide +kernel
theorem dX1_shortest_3 : decode cX1_shortest 3 = .ok (.istore_n 2, 1) := by decide +kernel
theorem dX1_shortest_4 : decode cX1_shortest 4 = .ok (.iload_n 2, 1) := by decide +kernel
theorem dX1_shortest_5 : decode cX1_shortest 5 = .ok (.aload_n 0, 1) := by decide +kernel
theorem dX1_shortest_6 : decode cX1_shortest 6 = .ok (.getfield 33, 3) := by decide +kernel
theorem dX1_shortest_9 : decode cX1_shortest 9 = .ok (.if_icmp .ge 27, 3) := by decide +kernel
theorem dX1_shortest_12 : decode cX1_shortest 12 = .ok (.aload_n 0, 1) := by decide +kernel
theorem dX1_shortest_13 : decode cX1_shortest 13 = .ok (.getfield 16, 3) := by decide +kernel
theorem dX1_shortest_16 : decode cX1_shortest 16 = .ok (.iload_n 2, 1) := by decide +kernel
theorem dX1_shortest_17 : decode cX1_shortest 17 = .ok (.laload, 1) := by decide +kernel
theorem dX1_shortest_18 : decode cX1_shortest 18 = .ok (.aload_n 0, 1) := by decide +kernel
theorem dX1_shortest_19 : decode cX1_shortest 19 = .ok (.getfield 16, 3) := by decide +kernel
theorem dX1_shortest_22 : decode cX1_shortest 22 = .ok (.iload_n 1, 1) := by decide +kernel
theorem dX1_shortest_23 : decode cX1_shortest 23 = .ok (.laload, 1) := by decide +kernel
theorem dX1_shortest_24 : decode cX1_shortest 24 = .ok (.lcmp, 1) := by decide +kernel
theorem dX1_shortest_25 : decode cX1_shortest 25 = .ok (.ifCond .ge 5, 3) := by decide +kernel
theorem dX1_shortest_28 : decode cX1_shortest 28 = .ok (.iload_n 2, 1) := by decide +kernel
theorem dX1_shortest_29 : decode cX1_shortest 29 = .ok (.istore_n 1, 1) := by decide +kernel
theorem dX1_shortest_30 : decode cX1_shortest 30 = .ok (.iinc 2 1, 3) := by decide +kernel
theorem dX1_shortest_33 : decode cX1_shortest 33 = .ok (.goto (-29), 3) := by decide +kernel
theorem dX1_shortest_36 : decode cX1_shortest 36 = .ok (.iload_n 1, 1) := by decide +kernel
theorem dX1_shortest_37 : decode cX1_shortest 37 = .ok (.ireturn, 1) := by decide +kernel
theorem dX1_fewestToMeet_0 : decode cX1_fewestToMeet 0 = .ok (.aload_n 0, 1) := by decide +kernel
theorem dX1_fewestToMeet_1 : decode cX1_fewestToMeet 1 = .ok (.iload_n 1, 1) := by decide +kernel
theorem dX1_fewestToMeet_2 : decode cX1_fewestToMeet 2 = .ok (.invokevirtual 40, 3) := by decide +kernel
theorem dX1_fewestToMeet_5 : decode cX1_fewestToMeet 5 = .ok (.aload_n 0, 1) := by decide +kernel
theorem dX1_fewestToMeet_6 : decode cX1_fewestToMeet 6 = .ok (.iload_n 2, 1) := by decide +kernel
theorem dX1_fewestToMeet_7 : decode cX1_fewestToMeet 7 = .ok (.invokevirtual 40, 3) := by decide +kernel
theorem dX1_fewestToMeet_10 : decode cX1_fewestToMeet 10 = .ok (.aload_n 0, 1) := by decide +kernel
theorem dX1_fewestToMeet_11 : decode cX1_fewestToMeet 11 = .ok (.getfield 16, 3) := by decide +kernel
theorem dX1_fewestToMeet_14 : decode cX1_fewestToMeet 14 = .ok (.iload_n 2, 1) := by decide +kernel
theorem dX1_fewestToMeet_15 : decode cX1_fewestToMeet 15 = .ok (.laload, 1) := by decide +kernel
theorem dX1_fewestToMeet_16 : decode cX1_fewestToMeet 16 = .ok (.aload_n 0, 1) := by decide +kernel
theorem dX1_fewestToMeet_17 : decode cX1_fewestToMeet 17 = .ok (.getfield 16, 3) := by decide +kernel
theorem dX1_fewestToMeet_20 : decode cX1_fewestToMeet 20 = .ok (.iload_n 1, 1) := by decide +kernel
theorem dX1_fewestToMeet_21 : decode cX1_fewestToMeet 21 = .ok (.laload, 1) := by decide +kernel
theorem dX1_fewestToMeet_22 : decode cX1_fewestToMeet 22 = .ok (.invokestatic 101, 3) := by decide +kernel
theorem dX1_fewestToMeet_25 : decode cX1_fewestToMeet 25 = .ok (.lreturn, 1) := by decide +kernel
theorem dX1_convert_0 : decode cX1_convert 0 = .ok (.aload_n 0, 1) := by decide +kernel
theorem dX1_convert_1 : decode cX1_convert 1 = .ok (.iload_n 2, 1) := by decide +kernel
theorem dX1_convert_2 : decode cX1_convert 2 = .ok (.invokevirtual 40, 3) := by decide +kernel
theorem dX1_convert_5 : decode cX1_convert 5 = .ok (.aload_n 0, 1) := by decide +kernel
theorem dX1_convert_6 : decode cX1_convert 6 = .ok (.iload_n 3, 1) := by decide +kernel
theorem dX1_convert_7 : decode cX1_convert 7 = .ok (.invokevirtual 40, 3) := by decide +kernel
theorem dX1_convert_10 : decode cX1_convert 10 = .ok (.iload_n 1, 1) := by decide +kernel
theorem dX1_convert_11 : decode cX1_convert 11 = .ok (.invokestatic 105, 3) := by decide +kernel
theorem dX1_convert_14 : decode cX1_convert 14 = .ok (.aload_n 0, 1) := by decide +kernel
theorem dX1_convert_15 : decode cX1_convert 15 = .ok (.getfield 16, 3) := by decide +kernel
theorem dX1_convert_18 : decode cX1_convert 18 = .ok (.iload_n 2, 1) := by decide +kernel
theorem dX1_convert_19 : decode cX1_convert 19 = .ok (.laload, 1) := by decide +kernel
theorem dX1_convert_20 : decode cX1_convert 20 = .ok (.iload_n 1, 1) := by decide +kernel
theorem dX1_convert_21 : decode cX1_convert 21 = .ok (.i2l, 1) := by decide +kernel
theorem dX1_convert_22 : decode cX1_convert 22 = .ok (.lmul, 1) := by decide +kernel
theorem dX1_convert_23 : decode cX1_convert 23 = .ok (.aload_n 0, 1) := by decide +kernel
theorem dX1_convert_24 : decode cX1_convert 24 = .ok (.getfield 16, 3) := by decide +kernel
theorem dX1_convert_27 : decode cX1_convert 27 = .ok (.iload_n 3, 1) := by decide +kernel
theorem dX1_convert_28 : decode cX1_convert 28 = .ok (.laload, 1) := by decide +kernel
theorem dX1_convert_29 : decode cX1_convert 29 = .ok (.invokestatic 108, 3) := by decide +kernel
theorem dX1_convert_32 : decode cX1_convert 32 = .ok (.lreturn, 1) := by decide +kernel
theorem dX1_isExact_0 : decode cX1_isExact 0 = .ok (.aload_n 0, 1) := by decide +kernel
theorem dX1_isExact_1 : decode cX1_isExact 1 = .ok (.iload_n 2, 1) := by decide +kernel
theorem dX1_isExact_2 : decode cX1_isExact 2 = .ok (.invokevirtual 40, 3) := by decide +kernel
theorem dX1_isExact_5 : decode cX1_isExact 5 = .ok (.aload_n 0, 1) := by decide +kernel
theorem dX1_isExact_6 : decode cX1_isExact 6 = .ok (.iload_n 3, 1) := by decide +kernel
theorem dX1_isExact_7 : decode cX1_isExact 7 = .ok (.invokevirtual 40, 3) := by decide +kernel
theorem dX1_isExact_10 : decode cX1_isExact 10 = .ok (.iload_n 1, 1) := by decide +kernel
theorem dX1_isExact_11 : decode cX1_isExact 11 = .ok (.invokestatic 105, 3) := by decide +kernel
theorem dX1_isExact_14 : decode cX1_isExact 14 = .ok (.aload_n 0, 1) := by decide +kernel
theorem dX1_isExact_15 : decode cX1_isExact 15 = .ok (.getfield 16, 3) := by decide +kernel
theorem dX1_isExact_18 : decode cX1_isExact 18 = .ok (.iload_n 2, 1) := by decide +kernel
theorem dX1_isExact_19 : decode cX1_isExact 19 = .ok (.laload, 1) := by decide +kernel
theorem dX1_isExact_20 : decode cX1_isExact 20 = .ok (.iload_n 1, 1) := by decide +kernel
theorem dX1_isExact_21 : decode cX1_isExact 21 = .ok (.i2l, 1) := by decide +kernel
theorem dX1_isExact_22 : decode cX1_isExact 22 = .ok (.lmul, 1) := by decide +kernel
theorem dX1_isExact_23 : decode cX1_isExact 23 = .ok (.aload_n 0, 1) := by decide +kernel
theorem dX1_isExact_24 : decode cX1_isExact 24 = .ok (.getfield 16, 3) := by decide +kernel
theorem dX1_isExact_27 : decode cX1_isExact 27 = .ok (.iload_n 3, 1) := by decide +kernel
theorem dX1_isExact_28 : decode cX1_isExact 28 = .ok (.laload, 1) := by decide +kernel
theorem dX1_isExact_29 : decode cX1_isExact 29 = .ok (.invokestatic 111, 3) := by decide +kernel
theorem dX1_isExact_32 : decode cX1_isExact 32 = .ok (.lconst 0, 1) := by decide +kernel
theorem dX1_isExact_33 : decode cX1_isExact 33 = .ok (.lcmp, 1) := by decide +kernel
theorem dX1_isExact_34 : decode cX1_isExact 34 = .ok (.ifCond .ne 7, 3) := by decide +kernel
theorem dX1_isExact_37 : decode cX1_isExact 37 = .ok (.iconst 1, 1) := by decide +kernel
theorem dX1_isExact_38 : decode cX1_isExact 38 = .ok (.goto 4, 3) := by decide +kernel
theorem dX1_isExact_41 : decode cX1_isExact 41 = .ok (.iconst 0, 1) := by decide +kernel
theorem dX1_isExact_42 : decode cX1_isExact 42 = .ok (.ireturn, 1) := by decide +kernel
theorem dX1_driftOf_0 : decode cX1_driftOf 0 = .ok (.aload_n 0, 1) := by decide +kernel
theorem dX1_driftOf_1 : decode cX1_driftOf 1 = .ok (.iload_n 1, 1) := by decide +kernel
theorem dX1_driftOf_2 : decode cX1_driftOf 2 = .ok (.invokevirtual 80, 3) := by decide +kernel
theorem dX1_driftOf_5 : decode cX1_driftOf 5 = .ok (.aload_n 0, 1) := by decide +kernel
theorem dX1_driftOf_6 : decode cX1_driftOf 6 = .ok (.getfield 26, 3) := by decide +kernel
theorem dX1_driftOf_9 : decode cX1_driftOf 9 = .ok (.getfield 77, 3) := by decide +kernel
theorem dX1_driftOf_12 : decode cX1_driftOf 12 = .ok (.iload_n 1, 1) := by decide +kernel
theorem dX1_driftOf_13 : decode cX1_driftOf 13 = .ok (.iaload, 1) := by decide +kernel
theorem dX1_driftOf_14 : decode cX1_driftOf 14 = .ok (.ireturn, 1) := by decide +kernel
theorem dX1_wearOf_0 : decode cX1_wearOf 0 = .ok (.aload_n 0, 1) := by decide +kernel
theorem dX1_wearOf_1 : decode cX1_wearOf 1 = .ok (.iload_n 1, 1) := by decide +kernel
theorem dX1_wearOf_2 : decode cX1_wearOf 2 = .ok (.invokevirtual 80, 3) := by decide +kernel
theorem dX1_wearOf_5 : decode cX1_wearOf 5 = .ok (.aload_n 0, 1) := by decide +kernel
theorem dX1_wearOf_6 : decode cX1_wearOf 6 = .ok (.getfield 26, 3) := by decide +kernel
theorem dX1_wearOf_9 : decode cX1_wearOf 9 = .ok (.getfield 74, 3) := by decide +kernel
theorem dX1_wearOf_12 : decode cX1_wearOf 12 = .ok (.iload_n 1, 1) := by decide +kernel
theorem dX1_wearOf_13 : decode cX1_wearOf 13 = .ok (.iaload, 1) := by decide +kernel
theorem dX1_wearOf_14 : decode cX1_wearOf 14 = .ok (.ireturn, 1) := by decide +kernel
theorem dX1_isHonest_0 : decode cX1_isHonest 0 = .ok (.aload_n 0, 1) := by decide +kernel
theorem dX1_isHonest_1 : decode cX1_isHonest 1 = .ok (.iload_n 1, 1) := by decide +kernel
theorem dX1_isHonest_2 : decode cX1_isHonest 2 = .ok (.invokevirtual 80, 3) := by decide +kernel
theorem dX1_isHonest_5 : decode cX1_isHonest 5 = .ok (.aload_n 0, 1) := by decide +kernel
theorem dX1_isHonest_6 : decode cX1_isHonest 6 = .ok (.getfield 26, 3) := by decide +kernel
theorem dX1_isHonest_9 : decode cX1_isHonest 9 = .ok (.aload_n 0, 1) := by decide +kernel
theorem dX1_isHonest_10 : decode cX1_isHonest 10 = .ok (.getfield 26, 3) := by decide +kernel
theorem dX1_isHonest_13 : decode cX1_isHonest 13 = .ok (.getfield 77, 3) := by decide +kernel
theorem dX1_isHonest_16 : decode cX1_isHonest 16 = .ok (.iload_n 1, 1) := by decide +kernel
theorem dX1_isHonest_17 : decode cX1_isHonest 17 = .ok (.iaload, 1) := by decide +kernel
theorem dX1_isHonest_18 : decode cX1_isHonest 18 = .ok (.invokevirtual 118, 3) := by decide +kernel
theorem dX1_isHonest_21 : decode cX1_isHonest 21 = .ok (.ireturn, 1) := by decide +kernel
theorem dX1_getsAt_0 : decode cX1_getsAt 0 = .ok (.aload_n 0, 1) := by decide +kernel
theorem dX1_getsAt_1 : decode cX1_getsAt 1 = .ok (.iload_n 1, 1) := by decide +kernel
theorem dX1_getsAt_2 : decode cX1_getsAt 2 = .ok (.invokevirtual 80, 3) := by decide +kernel
theorem dX1_getsAt_5 : decode cX1_getsAt 5 = .ok (.aload_n 0, 1) := by decide +kernel
theorem dX1_getsAt_6 : decode cX1_getsAt 6 = .ok (.iload_n 3, 1) := by decide +kernel
theorem dX1_getsAt_7 : decode cX1_getsAt 7 = .ok (.invokevirtual 40, 3) := by decide +kernel
theorem dX1_getsAt_10 : decode cX1_getsAt 10 = .ok (.iload_n 2, 1) := by decide +kernel
theorem dX1_getsAt_11 : decode cX1_getsAt 11 = .ok (.invokestatic 105, 3) := by decide +kernel
theorem dX1_getsAt_14 : decode cX1_getsAt 14 = .ok (.aload_n 0, 1) := by decide +kernel
theorem dX1_getsAt_15 : decode cX1_getsAt 15 = .ok (.aload_n 0, 1) := by decide +kernel
theorem dX1_getsAt_16 : decode cX1_getsAt 16 = .ok (.getfield 26, 3) := by decide +kernel
theorem dX1_getsAt_19 : decode cX1_getsAt 19 = .ok (.getfield 77, 3) := by decide +kernel
theorem dX1_getsAt_22 : decode cX1_getsAt 22 = .ok (.iload_n 1, 1) := by decide +kernel
theorem dX1_getsAt_23 : decode cX1_getsAt 23 = .ok (.iaload, 1) := by decide +kernel
theorem dX1_getsAt_24 : decode cX1_getsAt 24 = .ok (.iload_n 2, 1) := by decide +kernel
theorem dX1_getsAt_25 : decode cX1_getsAt 25 = .ok (.iload_n 3, 1) := by decide +kernel
theorem dX1_getsAt_26 : decode cX1_getsAt 26 = .ok (.invokevirtual 122, 3) := by decide +kernel
theorem dX1_getsAt_29 : decode cX1_getsAt 29 = .ok (.lreturn, 1) := by decide +kernel
theorem dX1_lossAt_0 : decode cX1_lossAt 0 = .ok (.aload_n 0, 1) := by decide +kernel
theorem dX1_lossAt_1 : decode cX1_lossAt 1 = .ok (.iload_n 1, 1) := by decide +kernel
theorem dX1_lossAt_2 : decode cX1_lossAt 2 = .ok (.invokevirtual 80, 3) := by decide +kernel
theorem dX1_lossAt_5 : decode cX1_lossAt 5 = .ok (.aload_n 0, 1) := by decide +kernel
theorem dX1_lossAt_6 : decode cX1_lossAt 6 = .ok (.iload_n 3, 1) := by decide +kernel
theorem dX1_lossAt_7 : decode cX1_lossAt 7 = .ok (.invokevirtual 40, 3) := by decide +kernel
theorem dX1_lossAt_10 : decode cX1_lossAt 10 = .ok (.iload_n 2, 1) := by decide +kernel
theorem dX1_lossAt_11 : decode cX1_lossAt 11 = .ok (.invokestatic 105, 3) := by decide +kernel
theorem dX1_lossAt_14 : decode cX1_lossAt 14 = .ok (.aload_n 0, 1) := by decide +kernel
theorem dX1_lossAt_15 : decode cX1_lossAt 15 = .ok (.iconst 0, 1) := by decide +kernel
theorem dX1_lossAt_16 : decode cX1_lossAt 16 = .ok (.iload_n 2, 1) := by decide +kernel
theorem dX1_lossAt_17 : decode cX1_lossAt 17 = .ok (.iload_n 3, 1) := by decide +kernel
theorem dX1_lossAt_18 : decode cX1_lossAt 18 = .ok (.invokevirtual 122, 3) := by decide +kernel
theorem dX1_lossAt_21 : decode cX1_lossAt 21 = .ok (.aload_n 0, 1) := by decide +kernel
theorem dX1_lossAt_22 : decode cX1_lossAt 22 = .ok (.aload_n 0, 1) := by decide +kernel
theorem dX1_lossAt_23 : decode cX1_lossAt 23 = .ok (.getfield 26, 3) := by decide +kernel
theorem dX1_lossAt_26 : decode cX1_lossAt 26 = .ok (.getfield 77, 3) := by decide +kernel
theorem dX1_lossAt_29 : decode cX1_lossAt 29 = .ok (.iload_n 1, 1) := by decide +kernel
theorem dX1_lossAt_30 : decode cX1_lossAt 30 = .ok (.iaload, 1) := by decide +kernel
theorem dX1_lossAt_31 : decode cX1_lossAt 31 = .ok (.iload_n 2, 1) := by decide +kernel
theorem dX1_lossAt_32 : decode cX1_lossAt 32 = .ok (.iload_n 3, 1) := by decide +kernel
theorem dX1_lossAt_33 : decode cX1_lossAt 33 = .ok (.invokevirtual 122, 3) := by decide +kernel
theorem dX1_lossAt_36 : decode cX1_lossAt 36 = .ok (.lsub, 1) := by decide +kernel
theorem dX1_lossAt_37 : decode cX1_lossAt 37 = .ok (.lreturn, 1) := by decide +kernel
theorem dX1_mostHonest_0 : decode cX1_mostHonest 0 = .ok (.iconst (-1), 1) := by decide +kernel
theorem dX1_mostHonest_1 : decode cX1_mostHonest 1 = .ok (.istore_n 1, 1) := by decide +kernel
theorem dX1_mostHonest_2 : decode cX1_mostHonest 2 = .ok (.sipush 301, 3) := by decide +kernel
theorem dX1_mostHonest_5 : decode cX1_mostHonest 5 = .ok (.istore_n 2, 1) := by decide +kernel
theorem dX1_mostHonest_6 : decode cX1_mostHonest 6 = .ok (.iconst 0, 1) := by decide +kernel
theorem dX1_mostHonest_7 : decode cX1_mostHonest 7 = .ok (.istore_n 3, 1) := by decide +kernel
theorem dX1_mostHonest_8 : decode cX1_mostHonest 8 = .ok (.iload_n 3, 1) := by decide +kernel
theorem dX1_mostHonest_9 : decode cX1_mostHonest 9 = .ok (.aload_n 0, 1) := by decide +kernel
theorem dX1_mostHonest_10 : decode cX1_mostHonest 10 = .ok (.getfield 26, 3) := by decide +kernel
theorem dX1_mostHonest_13 : decode cX1_mostHonest 13 = .ok (.getfield 69, 3) := by decide +kernel
theorem dX1_mostHonest_16 : decode cX1_mostHonest 16 = .ok (.if_icmp .ge 34, 3) := by decide +kernel
theorem dX1_mostHonest_19 : decode cX1_mostHonest 19 = .ok (.aload_n 0, 1) := by decide +kernel
theorem dX1_mostHonest_20 : decode cX1_mostHonest 20 = .ok (.getfield 26, 3) := by decide +kernel
theorem dX1_mostHonest_23 : decode cX1_mostHonest 23 = .ok (.getfield 77, 3) := by decide +kernel
theorem dX1_mostHonest_26 : decode cX1_mostHonest 26 = .ok (.iload_n 3, 1) := by decide +kernel
theorem dX1_mostHonest_27 : decode cX1_mostHonest 27 = .ok (.iaload, 1) := by decide +kernel
theorem dX1_mostHonest_28 : decode cX1_mostHonest 28 = .ok (.invokestatic 126, 3) := by decide +kernel
theorem dX1_mostHonest_31 : decode cX1_mostHonest 31 = .ok (.istore 4, 2) := by decide +kernel
theorem dX1_mostHonest_33 : decode cX1_mostHonest 33 = .ok (.iload 4, 2) := by decide +kernel
theorem dX1_mostHonest_35 : decode cX1_mostHonest 35 = .ok (.iload_n 2, 1) := by decide +kernel
theorem dX1_mostHonest_36 : decode cX1_mostHonest 36 = .ok (.if_icmp .ge 8, 3) := by decide +kernel
theorem dX1_mostHonest_39 : decode cX1_mostHonest 39 = .ok (.iload 4, 2) := by decide +kernel
theorem dX1_mostHonest_41 : decode cX1_mostHonest 41 = .ok (.istore_n 2, 1) := by decide +kernel
theorem dX1_mostHonest_42 : decode cX1_mostHonest 42 = .ok (.iload_n 3, 1) := by decide +kernel
theorem dX1_mostHonest_43 : decode cX1_mostHonest 43 = .ok (.istore_n 1, 1) := by decide +kernel
theorem dX1_mostHonest_44 : decode cX1_mostHonest 44 = .ok (.iinc 3 1, 3) := by decide +kernel
theorem dX1_mostHonest_47 : decode cX1_mostHonest 47 = .ok (.goto (-39), 3) := by decide +kernel
theorem dX1_mostHonest_50 : decode cX1_mostHonest 50 = .ok (.iload_n 1, 1) := by decide +kernel
theorem dX1_mostHonest_51 : decode cX1_mostHonest 51 = .ok (.ireturn, 1) := by decide +kernel
theorem dX1_mostGenerous_0 : decode cX1_mostGenerous 0 = .ok (.iconst (-1), 1) := by decide +kernel
theorem dX1_mostGenerous_1 : decode cX1_mostGenerous 1 = .ok (.istore_n 1, 1) := by decide +kernel
theorem dX1_mostGenerous_2 : decode cX1_mostGenerous 2 = .ok (.sipush (-301), 3) := by decide +kernel
theorem dX1_mostGenerous_5 : decode cX1_mostGenerous 5 = .ok (.istore_n 2, 1) := by decide +kernel
theorem dX1_mostGenerous_6 : decode cX1_mostGenerous 6 = .ok (.iconst 0, 1) := by decide +kernel
theorem dX1_mostGenerous_7 : decode cX1_mostGenerous 7 = .ok (.istore_n 3, 1) := by decide +kernel
theorem dX1_mostGenerous_8 : decode cX1_mostGenerous 8 = .ok (.iload_n 3, 1) := by decide +kernel
theorem dX1_mostGenerous_9 : decode cX1_mostGenerous 9 = .ok (.aload_n 0, 1) := by decide +kernel
theorem dX1_mostGenerous_10 : decode cX1_mostGenerous 10 = .ok (.getfield 26, 3) := by decide +kernel
theorem dX1_mostGenerous_13 : decode cX1_mostGenerous 13 = .ok (.getfield 69, 3) := by decide +kernel
theorem dX1_mostGenerous_16 : decode cX1_mostGenerous 16 = .ok (.if_icmp .ge 34, 3) := by decide +kernel
theorem dX1_mostGenerous_19 : decode cX1_mostGenerous 19 = .ok (.aload_n 0, 1) := by decide +kernel
theorem dX1_mostGenerous_20 : decode cX1_mostGenerous 20 = .ok (.getfield 26, 3) := by decide +kernel
theorem dX1_mostGenerous_23 : decode cX1_mostGenerous 23 = .ok (.getfield 77, 3) := by decide +kernel
theorem dX1_mostGenerous_26 : decode cX1_mostGenerous 26 = .ok (.iload_n 3, 1) := by decide +kernel
theorem dX1_mostGenerous_27 : decode cX1_mostGenerous 27 = .ok (.iaload, 1) := by decide +kernel
theorem dX1_mostGenerous_28 : decode cX1_mostGenerous 28 = .ok (.iload_n 2, 1) := by decide +kernel
theorem dX1_mostGenerous_29 : decode cX1_mostGenerous 29 = .ok (.if_icmp .le 15, 3) := by decide +kernel
theorem dX1_mostGenerous_32 : decode cX1_mostGenerous 32 = .ok (.aload_n 0, 1) := by decide +kernel
theorem dX1_mostGenerous_33 : decode cX1_mostGenerous 33 = .ok (.getfield 26, 3) := by decide +kernel
theorem dX1_mostGenerous_36 : decode cX1_mostGenerous 36 = .ok (.getfield 77, 3) := by decide +kernel
theorem dX1_mostGenerous_39 : decode cX1_mostGenerous 39 = .ok (.iload_n 3, 1) := by decide +kernel
theorem dX1_mostGenerous_40 : decode cX1_mostGenerous 40 = .ok (.iaload, 1) := by decide +kernel
theorem dX1_mostGenerous_41 : decode cX1_mostGenerous 41 = .ok (.istore_n 2, 1) := by decide +kernel
theorem dX1_mostGenerous_42 : decode cX1_mostGenerous 42 = .ok (.iload_n 3, 1) := by decide +kernel
theorem dX1_mostGenerous_43 : decode cX1_mostGenerous 43 = .ok (.istore_n 1, 1) := by decide +kernel
theorem dX1_mostGenerous_44 : decode cX1_mostGenerous 44 = .ok (.iinc 3 1, 3) := by decide +kernel
theorem dX1_mostGenerous_47 : decode cX1_mostGenerous 47 = .ok (.goto (-39), 3) := by decide +kernel
theorem dX1_mostGenerous_50 : decode cX1_mostGenerous 50 = .ok (.iload_n 1, 1) := by decide +kernel
theorem dX1_mostGenerous_51 : decode cX1_mostGenerous 51 = .ok (.ireturn, 1) := by decide +kernel
theorem dX1_meanDrift_0 : decode cX1_meanDrift 0 = .ok (.aload_n 0, 1) := by decide +kernel
theorem dX1_meanDrift_1 : decode cX1_meanDrift 1 = .ok (.getfield 26, 3) := by decide +kernel
theorem dX1_meanDrift_4 : decode cX1_meanDrift 4 = .ok (.getfield 69, 3) := by decide +kernel
theorem dX1_meanDrift_7 : decode cX1_meanDrift 7 = .ok (.iconst 1, 1) := by decide +kernel
theorem dX1_meanDrift_8 : decode cX1_meanDrift 8 = .ok (.if_icmp .ge 5, 3) := by decide +kernel
theorem dX1_meanDrift_11 : decode cX1_meanDrift 11 = .ok (.dconst 0, 1) := by decide +kernel
theorem dX1_meanDrift_12 : decode cX1_meanDrift 12 = .ok (.dreturn, 1) := by decide +kernel
theorem dX1_meanDrift_13 : decode cX1_meanDrift 13 = .ok (.iconst 0, 1) := by decide +kernel
theorem dX1_meanDrift_14 : decode cX1_meanDrift 14 = .ok (.istore_n 1, 1) := by decide +kernel
theorem dX1_meanDrift_15 : decode cX1_meanDrift 15 = .ok (.iconst 0, 1) := by decide +kernel
theorem dX1_meanDrift_16 : decode cX1_meanDrift 16 = .ok (.istore_n 2, 1) := by decide +kernel
theorem dX1_meanDrift_17 : decode cX1_meanDrift 17 = .ok (.iload_n 2, 1) := by decide +kernel
theorem dX1_meanDrift_18 : decode cX1_meanDrift 18 = .ok (.aload_n 0, 1) := by decide +kernel
theorem dX1_meanDrift_19 : decode cX1_meanDrift 19 = .ok (.getfield 26, 3) := by decide +kernel
theorem dX1_meanDrift_22 : decode cX1_meanDrift 22 = .ok (.getfield 69, 3) := by decide +kernel
theorem dX1_meanDrift_25 : decode cX1_meanDrift 25 = .ok (.if_icmp .ge 21, 3) := by decide +kernel
theorem dX1_meanDrift_28 : decode cX1_meanDrift 28 = .ok (.iload_n 1, 1) := by decide +kernel
theorem dX1_meanDrift_29 : decode cX1_meanDrift 29 = .ok (.aload_n 0, 1) := by decide +kernel
theorem dX1_meanDrift_30 : decode cX1_meanDrift 30 = .ok (.getfield 26, 3) := by decide +kernel
theorem dX1_meanDrift_33 : decode cX1_meanDrift 33 = .ok (.getfield 77, 3) := by decide +kernel
theorem dX1_meanDrift_36 : decode cX1_meanDrift 36 = .ok (.iload_n 2, 1) := by decide +kernel
theorem dX1_meanDrift_37 : decode cX1_meanDrift 37 = .ok (.iaload, 1) := by decide +kernel
theorem dX1_meanDrift_38 : decode cX1_meanDrift 38 = .ok (.iadd, 1) := by decide +kernel
theorem dX1_meanDrift_39 : decode cX1_meanDrift 39 = .ok (.istore_n 1, 1) := by decide +kernel
theorem dX1_meanDrift_40 : decode cX1_meanDrift 40 = .ok (.iinc 2 1, 3) := by decide +kernel
theorem dX1_meanDrift_43 : decode cX1_meanDrift 43 = .ok (.goto (-26), 3) := by decide +kernel
theorem dX1_meanDrift_46 : decode cX1_meanDrift 46 = .ok (.iload_n 1, 1) := by decide +kernel
theorem dX1_meanDrift_47 : decode cX1_meanDrift 47 = .ok (.i2d, 1) := by decide +kernel
theorem dX1_meanDrift_48 : decode cX1_meanDrift 48 = .ok (.aload_n 0, 1) := by decide +kernel
theorem dX1_meanDrift_49 : decode cX1_meanDrift 49 = .ok (.getfield 26, 3) := by decide +kernel
theorem dX1_meanDrift_52 : decode cX1_meanDrift 52 = .ok (.getfield 69, 3) := by decide +kernel
theorem dX1_meanDrift_55 : decode cX1_meanDrift 55 = .ok (.i2d, 1) := by decide +kernel
theorem dX1_meanDrift_56 : decode cX1_meanDrift 56 = .ok (.ddiv, 1) := by decide +kernel
theorem dX1_meanDrift_57 : decode cX1_meanDrift 57 = .ok (.dreturn, 1) := by decide +kernel
theorem dX1_needMeasure_0 : decode cX1_needMeasure 0 = .ok (.iload_n 1, 1) := by decide +kernel
theorem dX1_needMeasure_1 : decode cX1_needMeasure 1 = .ok (.iconst 0, 1) := by decide +kernel
theorem dX1_needMeasure_2 : decode cX1_needMeasure 2 = .ok (.aload_n 0, 1) := by decide +kernel
theorem dX1_needMeasure_3 : decode cX1_needMeasure 3 = .ok (.getfield 33, 3) := by decide +kernel
theorem dX1_needMeasure_6 : decode cX1_needMeasure 6 = .ok (.iconst 1, 1) := by decide +kernel
theorem dX1_needMeasure_7 : decode cX1_needMeasure 7 = .ok (.isub, 1) := by decide +kernel
theorem dX1_needMeasure_8 : decode cX1_needMeasure 8 = .ok (.invokestatic 44, 3) := by decide +kernel
theorem dX1_needMeasure_11 : decode cX1_needMeasure 11 = .ok (.ifCond .eq 13, 3) := by decide +kernel
theorem dX1_needMeasure_14 : decode cX1_needMeasure 14 = .ok (.new 221, 3) := by decide +kernel
theorem dX1_needMeasure_17 : decode cX1_needMeasure 17 = .ok (.dup, 1) := by decide +kernel
theorem dX1_needMeasure_18 : decode cX1_needMeasure 18 = .ok (.ldc 223, 2) := by decide +kernel
theorem dX1_needMeasure_20 : decode cX1_needMeasure 20 = .ok (.invokespecial 225, 3) := by decide +kernel
theorem dX1_needMeasure_23 : decode cX1_needMeasure 23 = .ok (.athrow, 1) := by decide +kernel
theorem dX1_needMeasure_24 : decode cX1_needMeasure 24 = .ok (.return_, 1) := by decide +kernel
theorem dX1_needStall_0 : decode cX1_needStall 0 = .ok (.iload_n 1, 1) := by decide +kernel
theorem dX1_needStall_1 : decode cX1_needStall 1 = .ok (.iconst 0, 1) := by decide +kernel
theorem dX1_needStall_2 : decode cX1_needStall 2 = .ok (.aload_n 0, 1) := by decide +kernel
theorem dX1_needStall_3 : decode cX1_needStall 3 = .ok (.getfield 26, 3) := by decide +kernel
theorem dX1_needStall_6 : decode cX1_needStall 6 = .ok (.getfield 69, 3) := by decide +kernel
theorem dX1_needStall_9 : decode cX1_needStall 9 = .ok (.iconst 1, 1) := by decide +kernel
theorem dX1_needStall_10 : decode cX1_needStall 10 = .ok (.isub, 1) := by decide +kernel
theorem dX1_needStall_11 : decode cX1_needStall 11 = .ok (.invokestatic 44, 3) := by decide +kernel
theorem dX1_needStall_14 : decode cX1_needStall 14 = .ok (.ifCond .eq 13, 3) := by decide +kernel
theorem dX1_needStall_17 : decode cX1_needStall 17 = .ok (.new 221, 3) := by decide +kernel
theorem dX1_needStall_20 : decode cX1_needStall 20 = .ok (.dup, 1) := by decide +kernel
theorem dX1_needStall_21 : decode cX1_needStall 21 = .ok (.ldc 226, 2) := by decide +kernel
theorem dX1_needStall_23 : decode cX1_needStall 23 = .ok (.invokespecial 225, 3) := by decide +kernel
theorem dX1_needStall_26 : decode cX1_needStall 26 = .ok (.athrow, 1) := by decide +kernel
theorem dX1_needStall_27 : decode cX1_needStall 27 = .ok (.return_, 1) := by decide +kernel
theorem dX1_needWear_0 : decode cX1_needWear 0 = .ok (.iload_n 0, 1) := by decide +kernel
theorem dX1_needWear_1 : decode cX1_needWear 1 = .ok (.bipush (-9), 2) := by decide +kernel
theorem dX1_needWear_3 : decode cX1_needWear 3 = .ok (.bipush 9, 2) := by decide +kernel
theorem dX1_needWear_5 : decode cX1_needWear 5 = .ok (.invokestatic 44, 3) := by decide +kernel
theorem dX1_needWear_8 : decode cX1_needWear 8 = .ok (.ifCond .eq 13, 3) := by decide +kernel
theorem dX1_needWear_11 : decode cX1_needWear 11 = .ok (.new 48, 3) := by decide +kernel
theorem dX1_needWear_14 : decode cX1_needWear 14 = .ok (.dup, 1) := by decide +kernel
theorem dX1_needWear_15 : decode cX1_needWear 15 = .ok (.ldc 228, 2) := by decide +kernel
theorem dX1_needWear_17 : decode cX1_needWear 17 = .ok (.invokespecial 52, 3) := by decide +kernel
theorem dX1_needWear_20 : decode cX1_needWear 20 = .ok (.athrow, 1) := by decide +kernel
theorem dX1_needWear_21 : decode cX1_needWear 21 = .ok (.return_, 1) := by decide +kernel
theorem dX1_needDays_0 : decode cX1_needDays 0 = .ok (.iload_n 0, 1) := by decide +kernel
theorem dX1_needDays_1 : decode cX1_needDays 1 = .ok (.iconst 1, 1) := by decide +kernel
theorem dX1_needDays_2 : decode cX1_needDays 2 = .ok (.bipush 60, 2) := by decide +kernel
theorem dX1_needDays_4 : decode cX1_needDays 4 = .ok (.invokestatic 44, 3) := by decide +kernel
theorem dX1_needDays_7 : decode cX1_needDays 7 = .ok (.ifCond .eq 13, 3) := by decide +kernel
theorem dX1_needDays_10 : decode cX1_needDays 10 = .ok (.new 48, 3) := by decide +kernel
theorem dX1_needDays_13 : decode cX1_needDays 13 = .ok (.dup, 1) := by decide +kernel
theorem dX1_needDays_14 : decode cX1_needDays 14 = .ok (.ldc 230, 2) := by decide +kernel
theorem dX1_needDays_16 : decode cX1_needDays 16 = .ok (.invokespecial 52, 3) := by decide +kernel
theorem dX1_needDays_19 : decode cX1_needDays 19 = .ok (.athrow, 1) := by decide +kernel
theorem dX1_needDays_20 : decode cX1_needDays 20 = .ok (.return_, 1) := by decide +kernel
theorem dX1_needMany_0 : decode cX1_needMany 0 = .ok (.iload_n 0, 1) := by decide +kernel
theorem dX1_needMany_1 : decode cX1_needMany 1 = .ok (.iconst 1, 1) := by decide +kernel
theorem dX1_needMany_2 : decode cX1_needMany 2 = .ok (.sipush 200, 3) := by decide +kernel
theorem dX1_needMany_5 : decode cX1_needMany 5 = .ok (.invokestatic 44, 3) := by decide +kernel
theorem dX1_needMany_8 : decode cX1_needMany 8 = .ok (.ifCond .eq 13, 3) := by decide +kernel
theorem dX1_needMany_11 : decode cX1_needMany 11 = .ok (.new 48, 3) := by decide +kernel
theorem dX1_needMany_14 : decode cX1_needMany 14 = .ok (.dup, 1) := by decide +kernel
theorem dX1_needMany_15 : decode cX1_needMany 15 = .ok (.ldc 232, 2) := by decide +kernel
theorem dX1_needMany_17 : decode cX1_needMany 17 = .ok (.invokespecial 52, 3) := by decide +kernel
theorem dX1_needMany_20 : decode cX1_needMany 20 = .ok (.athrow, 1) := by decide +kernel
theorem dX1_needMany_21 : decode cX1_needMany 21 = .ok (.return_, 1) := by decide +kernel
theorem dX1_isOutside_0 : decode cX1_isOutside 0 = .ok (.iload_n 0, 1) := by decide +kernel
theorem dX1_isOutside_1 : decode cX1_isOutside 1 = .ok (.iload_n 1, 1) := by decide +kernel
theorem dX1_isOutside_2 : decode cX1_isOutside 2 = .ok (.if_icmp .lt 8, 3) := by decide +kernel
theorem dX1_isOutside_5 : decode cX1_isOutside 5 = .ok (.iload_n 0, 1) := by decide +kernel
theorem dX1_isOutside_6 : decode cX1_isOutside 6 = .ok (.iload_n 2, 1) := by decide +kernel
theorem dX1_isOutside_7 : decode cX1_isOutside 7 = .ok (.if_icmp .le 7, 3) := by decide +kernel
theorem dX1_isOutside_10 : decode cX1_isOutside 10 = .ok (.iconst 1, 1) := by decide +kernel
theorem dX1_isOutside_11 : decode cX1_isOutside 11 = .ok (.goto 4, 3) := by decide +kernel
theorem dX1_isOutside_14 : decode cX1_isOutside 14 = .ok (.iconst 0, 1) := by decide +kernel
theorem dX1_isOutside_15 : decode cX1_isOutside 15 = .ok (.ireturn, 1) := by decide +kernel
theorem dX1_refineUnit_0 : decode cX1_refineUnit 0 = .ok (.iconst 0, 1) := by decide +kernel
theorem dX1_refineUnit_1 : decode cX1_refineUnit 1 = .ok (.istore_n 2, 1) := by decide +kernel
theorem dX1_refineUnit_2 : decode cX1_refineUnit 2 = .ok (.iload_n 2, 1) := by decide +kernel
theorem dX1_refineUnit_3 : decode cX1_refineUnit 3 = .ok (.aload_n 0, 1) := by decide +kernel
theorem dX1_refineUnit_4 : decode cX1_refineUnit 4 = .ok (.getfield 33, 3) := by decide +kernel
theorem dX1_refineUnit_7 : decode cX1_refineUnit 7 = .ok (.if_icmp .ge 20, 3) := by decide +kernel
theorem dX1_refineUnit_10 : decode cX1_refineUnit 10 = .ok (.aload_n 0, 1) := by decide +kernel
theorem dX1_refineUnit_11 : decode cX1_refineUnit 11 = .ok (.getfield 16, 3) := by decide +kernel
theorem dX1_refineUnit_14 : decode cX1_refineUnit 14 = .ok (.iload_n 2, 1) := by decide +kernel
theorem dX1_refineUnit_15 : decode cX1_refineUnit 15 = .ok (.dup2, 1) := by decide +kernel
theorem dX1_refineUnit_16 : decode cX1_refineUnit 16 = .ok (.laload, 1) := by decide +kernel
theorem dX1_refineUnit_17 : decode cX1_refineUnit 17 = .ok (.iload_n 1, 1) := by decide +kernel
theorem dX1_refineUnit_18 : decode cX1_refineUnit 18 = .ok (.i2l, 1) := by decide +kernel
theorem dX1_refineUnit_19 : decode cX1_refineUnit 19 = .ok (.lmul, 1) := by decide +kernel
theorem dX1_refineUnit_20 : decode cX1_refineUnit 20 = .ok (.lastore, 1) := by decide +kernel
theorem dX1_refineUnit_21 : decode cX1_refineUnit 21 = .ok (.iinc 2 1, 3) := by decide +kernel
theorem dX1_refineUnit_24 : decode cX1_refineUnit 24 = .ok (.goto (-22), 3) := by decide +kernel
theorem dX1_refineUnit_27 : decode cX1_refineUnit 27 = .ok (.return_, 1) := by decide +kernel
theorem dX1_rankLast_0 : decode cX1_rankLast 0 = .ok (.aload_n 0, 1) := by decide +kernel
theorem dX1_rankLast_1 : decode cX1_rankLast 1 = .ok (.getfield 33, 3) := by decide +kernel
theorem dX1_rankLast_4 : decode cX1_rankLast 4 = .ok (.iconst 1, 1) := by decide +kernel
theorem dX1_rankLast_5 : decode cX1_rankLast 5 = .ok (.isub, 1) := by decide +kernel
theorem dX1_rankLast_6 : decode cX1_rankLast 6 = .ok (.istore_n 1, 1) := by decide +kernel
theorem dX1_rankLast_7 : decode cX1_rankLast 7 = .ok (.iload_n 1, 1) := by decide +kernel
theorem dX1_rankLast_8 : decode cX1_rankLast 8 = .ok (.istore_n 2, 1) := by decide +kernel
theorem dX1_rankLast_9 : decode cX1_rankLast 9 = .ok (.iload_n 2, 1) := by decide +kernel
theorem dX1_rankLast_10 : decode cX1_rankLast 10 = .ok (.ifCond .le 40, 3) := by decide +kernel
theorem dX1_rankLast_13 : decode cX1_rankLast 13 = .ok (.aload_n 0, 1) := by decide +kernel
theorem dX1_rankLast_14 : decode cX1_rankLast 14 = .ok (.iload_n 2, 1) := by decide +kernel
theorem dX1_rankLast_15 : decode cX1_rankLast 15 = .ok (.iconst 1, 1) := by decide +kernel
theorem dX1_rankLast_16 : decode cX1_rankLast 16 = .ok (.isub, 1) := by decide +kernel
theorem dX1_rankLast_17 : decode cX1_rankLast 17 = .ok (.invokevirtual 114, 3) := by decide +kernel
theorem dX1_rankLast_20 : decode cX1_rankLast 20 = .ok (.aload_n 0, 1) := by decide +kernel
theorem dX1_rankLast_21 : decode cX1_rankLast 21 = .ok (.getfield 16, 3) := by decide +kernel
theorem dX1_rankLast_24 : decode cX1_rankLast 24 = .ok (.iload_n 1, 1) := by decide +kernel
theorem dX1_rankLast_25 : decode cX1_rankLast 25 = .ok (.laload, 1) := by decide +kernel
theorem dX1_rankLast_26 : decode cX1_rankLast 26 = .ok (.lcmp, 1) := by decide +kernel
theorem dX1_rankLast_27 : decode cX1_rankLast 27 = .ok (.ifCond .ge 23, 3) := by decide +kernel
theorem dX1_rankLast_30 : decode cX1_rankLast 30 = .ok (.aload_n 0, 1) := by decide +kernel
theorem dX1_rankLast_31 : decode cX1_rankLast 31 = .ok (.getfield 20, 3) := by decide +kernel
theorem dX1_rankLast_34 : decode cX1_rankLast 34 = .ok (.iload_n 2, 1) := by decide +kernel
theorem dX1_rankLast_35 : decode cX1_rankLast 35 = .ok (.aload_n 0, 1) := by decide +kernel
theorem dX1_rankLast_36 : decode cX1_rankLast 36 = .ok (.getfield 20, 3) := by decide +kernel
theorem dX1_rankLast_39 : decode cX1_rankLast 39 = .ok (.iload_n 2, 1) := by decide +kernel
theorem dX1_rankLast_40 : decode cX1_rankLast 40 = .ok (.iconst 1, 1) := by decide +kernel
theorem dX1_rankLast_41 : decode cX1_rankLast 41 = .ok (.isub, 1) := by decide +kernel
theorem dX1_rankLast_42 : decode cX1_rankLast 42 = .ok (.iaload, 1) := by decide +kernel
theorem dX1_rankLast_43 : decode cX1_rankLast 43 = .ok (.iastore, 1) := by decide +kernel
theorem dX1_rankLast_44 : decode cX1_rankLast 44 = .ok (.iinc 2 (-1), 3) := by decide +kernel
theorem dX1_rankLast_47 : decode cX1_rankLast 47 = .ok (.goto (-38), 3) := by decide +kernel
theorem dX1_rankLast_50 : decode cX1_rankLast 50 = .ok (.aload_n 0, 1) := by decide +kernel
theorem dX1_rankLast_51 : decode cX1_rankLast 51 = .ok (.getfield 20, 3) := by decide +kernel
theorem dX1_rankLast_54 : decode cX1_rankLast 54 = .ok (.iload_n 2, 1) := by decide +kernel
theorem dX1_rankLast_55 : decode cX1_rankLast 55 = .ok (.iload_n 1, 1) := by decide +kernel
theorem dX1_rankLast_56 : decode cX1_rankLast 56 = .ok (.iastore, 1) := by decide +kernel
theorem dX1_rankLast_57 : decode cX1_rankLast 57 = .ok (.return_, 1) := by decide +kernel
theorem dX1_lengthAt_0 : decode cX1_lengthAt 0 = .ok (.aload_n 0, 1) := by decide +kernel
theorem dX1_lengthAt_1 : decode cX1_lengthAt 1 = .ok (.getfield 16, 3) := by decide +kernel
theorem dX1_lengthAt_4 : decode cX1_lengthAt 4 = .ok (.aload_n 0, 1) := by decide +kernel
theorem dX1_lengthAt_5 : decode cX1_lengthAt 5 = .ok (.getfield 20, 3) := by decide +kernel
theorem dX1_lengthAt_8 : decode cX1_lengthAt 8 = .ok (.iload_n 1, 1) := by decide +kernel
theorem dX1_lengthAt_9 : decode cX1_lengthAt 9 = .ok (.iaload, 1) := by decide +kernel
theorem dX1_lengthAt_10 : decode cX1_lengthAt 10 = .ok (.laload, 1) := by decide +kernel
theorem dX1_lengthAt_11 : decode cX1_lengthAt 11 = .ok (.lreturn, 1) := by decide +kernel
theorem dX1_givenWith_0 : decode cX1_givenWith 0 = .ok (.aload_n 0, 1) := by decide +kernel
theorem dX1_givenWith_1 : decode cX1_givenWith 1 = .ok (.getfield 16, 3) := by decide +kernel
theorem dX1_givenWith_4 : decode cX1_givenWith 4 = .ok (.iload_n 3, 1) := by decide +kernel
theorem dX1_givenWith_5 : decode cX1_givenWith 5 = .ok (.laload, 1) := by decide +kernel
theorem dX1_givenWith_6 : decode cX1_givenWith 6 = .ok (.iload_n 2, 1) := by decide +kernel
theorem dX1_givenWith_7 : decode cX1_givenWith 7 = .ok (.i2l, 1) := by decide +kernel
theorem dX1_givenWith_8 : decode cX1_givenWith 8 = .ok (.lmul, 1) := by decide +kernel
theorem dX1_givenWith_9 : decode cX1_givenWith 9 = .ok (.sipush 1000, 3) := by decide +kernel
theorem dX1_givenWith_12 : decode cX1_givenWith 12 = .ok (.iload_n 1, 1) := by decide +kernel
theorem dX1_givenWith_13 : decode cX1_givenWith 13 = .ok (.iadd, 1) := by decide +kernel
theorem dX1_givenWith_14 : decode cX1_givenWith 14 = .ok (.i2l, 1) := by decide +kernel
theorem dX1_givenWith_15 : decode cX1_givenWith 15 = .ok (.lmul, 1) := by decide +kernel
theorem dX1_givenWith_16 : decode cX1_givenWith 16 = .ok (.aload_n 0, 1) := by decide +kernel
theorem dX1_givenWith_17 : decode cX1_givenWith 17 = .ok (.getfield 16, 3) := by decide +kernel
theorem dX1_givenWith_20 : decode cX1_givenWith 20 = .ok (.aload_n 0, 1) := by decide +kernel
theorem dX1_givenWith_21 : decode cX1_givenWith 21 = .ok (.getfield 37, 3) := by decide +kernel
theorem dX1_givenWith_24 : decode cX1_givenWith 24 = .ok (.laload, 1) := by decide +kernel
theorem dX1_givenWith_25 : decode cX1_givenWith 25 = .ok (.invokestatic 108, 3) := by decide +kernel
theorem dX1_givenWith_28 : decode cX1_givenWith 28 = .ok (.lreturn, 1) := by decide +kernel
theorem dX1_timesIn_0 : decode cX1_timesIn 0 = .ok (.lload_n 2, 1) := by decide +kernel
theorem dX1_timesIn_1 : decode cX1_timesIn 1 = .ok (.lconst 1, 1) := by decide +kernel
theorem dX1_timesIn_2 : decode cX1_timesIn 2 = .ok (.lcmp, 1) := by decide +kernel
theorem dX1_timesIn_3 : decode cX1_timesIn 3 = .ok (.ifCond .ge 7, 3) := by decide +kernel
theorem dX1_timesIn_6 : decode cX1_timesIn 6 = .ok (.lconst 0, 1) := by decide +kernel
theorem dX1_timesIn_7 : decode cX1_timesIn 7 = .ok (.goto 6, 3) := by decide +kernel
theorem dX1_timesIn_10 : decode cX1_timesIn 10 = .ok (.lload_n 0, 1) := by decide +kernel
theorem dX1_timesIn_11 : decode cX1_timesIn 11 = .ok (.lload_n 2, 1) := by decide +kernel
theorem dX1_timesIn_12 : decode cX1_timesIn 12 = .ok (.ldiv, 1) := by decide +kernel
theorem dX1_timesIn_13 : decode cX1_timesIn 13 = .ok (.lreturn, 1) := by decide +kernel
theorem dX1_leftOf_0 : decode cX1_leftOf 0 = .ok (.lload_n 2, 1) := by decide +kernel
theorem dX1_leftOf_1 : decode cX1_leftOf 1 = .ok (.lconst 1, 1) := by decide +kernel
theorem dX1_leftOf_2 : decode cX1_leftOf 2 = .ok (.lcmp, 1) := by decide +kernel
theorem dX1_leftOf_3 : decode cX1_leftOf 3 = .ok (.ifCond .ge 7, 3) := by decide +kernel
theorem dX1_leftOf_6 : decode cX1_leftOf 6 = .ok (.lload_n 0, 1) := by decide +kernel
theorem dX1_leftOf_7 : decode cX1_leftOf 7 = .ok (.goto 6, 3) := by decide +kernel
theorem dX1_leftOf_10 : decode cX1_leftOf 10 = .ok (.lload_n 0, 1) := by decide +kernel
theorem dX1_leftOf_11 : decode cX1_leftOf 11 = .ok (.lload_n 2, 1) := by decide +kernel
theorem dX1_leftOf_12 : decode cX1_leftOf 12 = .ok (.lrem, 1) := by decide +kernel
theorem dX1_leftOf_13 : decode cX1_leftOf 13 = .ok (.lreturn, 1) := by decide +kernel
theorem dX1_withoutCommonDivisor_0 : decode cX1_withoutCommonDivisor 0 = .ok (.lload_n 0, 1) := by decide +kernel
theorem dX1_withoutCommonDivisor_1 : decode cX1_withoutCommonDivisor 1 = .ok (.lload_n 0, 1) := by decide +kernel
theorem dX1_withoutCommonDivisor_2 : decode cX1_withoutCommonDivisor 2 = .ok (.lload_n 2, 1) := by decide +kernel
theorem dX1_withoutCommonDivisor_3 : decode cX1_withoutCommonDivisor 3 = .ok (.invokestatic 234, 3) := by decide +kernel
theorem dX1_withoutCommonDivisor_6 : decode cX1_withoutCommonDivisor 6 = .ok (.invokestatic 108, 3) := by decide +kernel
theorem dX1_withoutCommonDivisor_9 : decode cX1_withoutCommonDivisor 9 = .ok (.lreturn, 1) := by decide +kernel
theorem dX1_greatestCommonDivisor_0 : decode cX1_greatestCommonDivisor 0 = .ok (.lload_n 0, 1) := by decide +kernel
theorem dX1_greatestCommonDivisor_1 : decode cX1_greatestCommonDivisor 1 = .ok (.lstore 4, 2) := by decide +kernel
theorem dX1_greatestCommonDivisor_3 : decode cX1_greatestCommonDivisor 3 = .ok (.lload_n 2, 1) := by decide +kernel
theorem dX1_greatestCommonDivisor_4 : decode cX1_greatestCommonDivisor 4 = .ok (.lstore 6, 2) := by decide +kernel
theorem dX1_greatestCommonDivisor_6 : decode cX1_greatestCommonDivisor 6 = .ok (.iconst 0, 1) := by decide +kernel
theorem dX1_greatestCommonDivisor_7 : decode cX1_greatestCommonDivisor 7 = .ok (.istore 8, 2) := by decide +kernel
theorem dX1_greatestCommonDivisor_9 : decode cX1_greatestCommonDivisor 9 = .ok (.iload 8, 2) := by decide +kernel
theorem dX1_greatestCommonDivisor_11 : decode cX1_greatestCommonDivisor 11 = .ok (.bipush 100, 2) := by decide +kernel
theorem dX1_greatestCommonDivisor_13 : decode cX1_greatestCommonDivisor 13 = .ok (.if_icmp .ge 31, 3) := by decide +kernel
theorem dX1_greatestCommonDivisor_16 : decode cX1_greatestCommonDivisor 16 = .ok (.lload 6, 2) := by decide +kernel
theorem dX1_greatestCommonDivisor_18 : decode cX1_greatestCommonDivisor 18 = .ok (.lconst 0, 1) := by decide +kernel
theorem dX1_greatestCommonDivisor_19 : decode cX1_greatestCommonDivisor 19 = .ok (.lcmp, 1) := by decide +kernel
theorem dX1_greatestCommonDivisor_20 : decode cX1_greatestCommonDivisor 20 = .ok (.ifCond .le 24, 3) := by decide +kernel
theorem dX1_greatestCommonDivisor_23 : decode cX1_greatestCommonDivisor 23 = .ok (.lload 4, 2) := by decide +kernel
theorem dX1_greatestCommonDivisor_25 : decode cX1_greatestCommonDivisor 25 = .ok (.lload 6, 2) := by decide +kernel
theorem dX1_greatestCommonDivisor_27 : decode cX1_greatestCommonDivisor 27 = .ok (.lrem, 1) := by decide +kernel
theorem dX1_greatestCommonDivisor_28 : decode cX1_greatestCommonDivisor 28 = .ok (.lstore 9, 2) := by decide +kernel
theorem dX1_greatestCommonDivisor_30 : decode cX1_greatestCommonDivisor 30 = .ok (.lload 6, 2) := by decide +kernel
theorem dX1_greatestCommonDivisor_32 : decode cX1_greatestCommonDivisor 32 = .ok (.lstore 4, 2) := by decide +kernel
theorem dX1_greatestCommonDivisor_34 : decode cX1_greatestCommonDivisor 34 = .ok (.lload 9, 2) := by decide +kernel
theorem dX1_greatestCommonDivisor_36 : decode cX1_greatestCommonDivisor 36 = .ok (.lstore 6, 2) := by decide +kernel
theorem dX1_greatestCommonDivisor_38 : decode cX1_greatestCommonDivisor 38 = .ok (.iinc 8 1, 3) := by decide +kernel
theorem dX1_greatestCommonDivisor_41 : decode cX1_greatestCommonDivisor 41 = .ok (.goto (-32), 3) := by decide +kernel
theorem dX1_greatestCommonDivisor_44 : decode cX1_greatestCommonDivisor 44 = .ok (.lload 4, 2) := by decide +kernel
theorem dX1_greatestCommonDivisor_46 : decode cX1_greatestCommonDivisor 46 = .ok (.lreturn, 1) := by decide +kernel
theorem dJ9_floorMod_7cf53_0 : decode cJ9_floorMod_7cf53 0 = .ok (.iload_n 0, 1) := by decide +kernel
theorem dJ9_floorMod_7cf53_1 : decode cJ9_floorMod_7cf53 1 = .ok (.iload_n 1, 1) := by decide +kernel
theorem dJ9_floorMod_7cf53_2 : decode cJ9_floorMod_7cf53 2 = .ok (.irem, 1) := by decide +kernel
theorem dJ9_floorMod_7cf53_3 : decode cJ9_floorMod_7cf53 3 = .ok (.istore_n 2, 1) := by decide +kernel
theorem dJ9_floorMod_7cf53_4 : decode cJ9_floorMod_7cf53 4 = .ok (.iload_n 0, 1) := by decide +kernel
theorem dJ9_floorMod_7cf53_5 : decode cJ9_floorMod_7cf53 5 = .ok (.iload_n 1, 1) := by decide +kernel
theorem dJ9_floorMod_7cf53_6 : decode cJ9_floorMod_7cf53 6 = .ok (.ixor, 1) := by decide +kernel
theorem dJ9_floorMod_7cf53_7 : decode cJ9_floorMod_7cf53 7 = .ok (.ifCond .ge 11, 3) := by decide +kernel
theorem dJ9_floorMod_7cf53_10 : decode cJ9_floorMod_7cf53 10 = .ok (.iload_n 2, 1) := by decide +kernel
theorem dJ9_floorMod_7cf53_11 : decode cJ9_floorMod_7cf53 11 = .ok (.ifCond .eq 7, 3) := by decide +kernel
theorem dJ9_floorMod_7cf53_14 : decode cJ9_floorMod_7cf53 14 = .ok (.iload_n 2, 1) := by decide +kernel
theorem dJ9_floorMod_7cf53_15 : decode cJ9_floorMod_7cf53 15 = .ok (.iload_n 1, 1) := by decide +kernel
theorem dJ9_floorMod_7cf53_16 : decode cJ9_floorMod_7cf53 16 = .ok (.iadd, 1) := by decide +kernel
theorem dJ9_floorMod_7cf53_17 : decode cJ9_floorMod_7cf53 17 = .ok (.ireturn, 1) := by decide +kernel
theorem dJ9_floorMod_7cf53_18 : decode cJ9_floorMod_7cf53 18 = .ok (.iload_n 2, 1) := by decide +kernel
theorem dJ9_floorMod_7cf53_19 : decode cJ9_floorMod_7cf53 19 = .ok (.ireturn, 1) := by decide +kernel
theorem dJ9_abs_0f7a4_0 : decode cJ9_abs_0f7a4 0 = .ok (.iload_n 0, 1) := by decide +kernel
theorem dJ9_abs_0f7a4_1 : decode cJ9_abs_0f7a4 1 = .ok (.ifCond .ge 8, 3) := by decide +kernel
theorem dJ9_abs_0f7a4_4 : decode cJ9_abs_0f7a4 4 = .ok (.iload_n 0, 1) := by decide +kernel
theorem dJ9_abs_0f7a4_5 : decode cJ9_abs_0f7a4 5 = .ok (.ineg, 1) := by decide +kernel
theorem dJ9_abs_0f7a4_6 : decode cJ9_abs_0f7a4 6 = .ok (.goto 4, 3) := by decide +kernel
theorem dJ9_abs_0f7a4_9 : decode cJ9_abs_0f7a4 9 = .ok (.iload_n 0, 1) := by decide +kernel
theorem dJ9_abs_0f7a4_10 : decode cJ9_abs_0f7a4 10 = .ok (.ireturn, 1) := by decide +kernel
theorem dJ9_max_7cf53_0 : decode cJ9_max_7cf53 0 = .ok (.iload_n 0, 1) := by decide +kernel
theorem dJ9_max_7cf53_1 : decode cJ9_max_7cf53 1 = .ok (.iload_n 1, 1) := by decide +kernel
theorem dJ9_max_7cf53_2 : decode cJ9_max_7cf53 2 = .ok (.if_icmp .lt 7, 3) := by decide +kernel
theorem dJ9_max_7cf53_5 : decode cJ9_max_7cf53 5 = .ok (.iload_n 0, 1) := by decide +kernel
theorem dJ9_max_7cf53_6 : decode cJ9_max_7cf53 6 = .ok (.goto 4, 3) := by decide +kernel
theorem dJ9_max_7cf53_9 : decode cJ9_max_7cf53 9 = .ok (.iload_n 1, 1) := by decide +kernel
theorem dJ9_max_7cf53_10 : decode cJ9_max_7cf53 10 = .ok (.ireturn, 1) := by decide +kernel
theorem dJ9_min_7cf53_0 : decode cJ9_min_7cf53 0 = .ok (.iload_n 0, 1) := by decide +kernel
theorem dJ9_min_7cf53_1 : decode cJ9_min_7cf53 1 = .ok (.iload_n 1, 1) := by decide +kernel
theorem dJ9_min_7cf53_2 : decode cJ9_min_7cf53 2 = .ok (.if_icmp .gt 7, 3) := by decide +kernel
theorem dJ9_min_7cf53_5 : decode cJ9_min_7cf53 5 = .ok (.iload_n 0, 1) := by decide +kernel
theorem dJ9_min_7cf53_6 : decode cJ9_min_7cf53 6 = .ok (.goto 4, 3) := by decide +kernel
theorem dJ9_min_7cf53_9 : decode cJ9_min_7cf53 9 = .ok (.iload_n 1, 1) := by decide +kernel
theorem dJ9_min_7cf53_10 : decode cJ9_min_7cf53 10 = .ok (.ireturn, 1) := by decide +kernel
set_option maxRecDepth 20000 in
theorem ggX0_coinsPaidIn_X0_coinsPaidNextDay : GoodIn wsX0_coinsPaidIn wsX0_coinsPaidNextDay := goodIn_r _ [5, 6, 7, 8, 9, 10, 11, 4, 12, 13, 14, 15, 16, 17, 18, 19, 20, 21, 22, 23, 24, 25, 26, 27, 28, 29, 30, 31, 32, 33, 34, 35, 36, 37, 38, 39, 40, 41, 42, 43, 44] (by decide +kernel) (by decide +kernel)
set_option maxRecDepth 20000 in
theorem gX0_coinsPaidIn_X0_coinsPaidNextDay : GoodIn wsX0_coinsPaidIn (wsV RX0 28 RX0 yX0_coinsPaidNextDay wsX0_coinsPaidNextDay) := goodIn_app (goodIn_of _ (by decide +kernel)) ggX0_coinsPaidIn_X0_coinsPaidNextDay
set_option maxRecDepth 20000 in
theorem ggX0_coinsPaidNextDay_X0_held : GoodIn wsX0_coinsPaidNextDay wsX0_held := goodIn_r _ [8, 9, 10, 11, 12, 13, 14, 15] (by decide +kernel) (by decide +kernel)
set_option maxRecDepth 20000 in
theorem gX0_coinsPaidNextDay_X0_held : GoodIn wsX0_coinsPaidNextDay (va_wsS RX0 32 yX0_held wsX0_held) := goodIn_app (goodIn_of _ (by decide +kernel)) ggX0_coinsPaidNextDay_X0_held
set_option maxRecDepth 20000 in
theorem ggX0_coinsPaidNextDay_X0_visited : GoodIn wsX0_coinsPaidNextDay wsX0_visited := goodIn_r _ [19, 1, 4, 20, 21, 22, 23, 36, 37, 38, 39, 40] (by decide +kernel) (by decide +kernel)
set_option maxRecDepth 20000 in
theorem gX0_coinsPaidNextDay_X0_visited : GoodIn wsX0_coinsPaidNextDay (wsV RX0 36 RX0 yX0_visited wsX0_visited) := goodIn_app (goodIn_of _ (by decide +kernel)) ggX0_coinsPaidNextDay_X0_visited
set_option maxRecDepth 20000 in
theorem ggX0_coinsPaidNextDay_X0_finedAt : GoodIn wsX0_coinsPaidNextDay wsX0_finedAt := goodIn_r _ [27, 1, 2, 28, 29, 11, 30, 31, 32, 33, 7, 34, 35, 36, 37, 38, 39, 40] (by decide +kernel) (by decide +kernel)
set_option maxRecDepth 20000 in
theorem gX0_coinsPaidNextDay_X0_finedAt : GoodIn wsX0_coinsPaidNextDay (wsV RX0 39 RX0 yX0_finedAt wsX0_finedAt) := goodIn_app (goodIn_of _ (by decide +kernel)) ggX0_coinsPaidNextDay_X0_finedAt
set_option maxRecDepth 20000 in
theorem ggX0_visited_J9_floorMod_7cf53 : GoodIn wsX0_visited wsJ9_floorMod_7cf53 := goodIn_r _ [6] (by decide +kernel) (by decide +kernel)
set_option maxRecDepth 20000 in
theorem gX0_visited_J9_floorMod_7cf53 : GoodIn wsX0_visited (va_wsS RX0 42 yJ9_floorMod_7cf53 wsJ9_floorMod_7cf53) := goodIn_app (goodIn_of _ (by decide +kernel)) ggX0_visited_J9_floorMod_7cf53
set_option maxRecDepth 20000 in
theorem ggX0_finedAt_X0_isTolerated : GoodIn wsX0_finedAt wsX0_isTolerated := goodIn_r _ [11, 3, 4, 5, 6, 12, 13, 14, 15, 16, 17] (by decide +kernel) (by decide +kernel)
set_option maxRecDepth 20000 in
theorem gX0_finedAt_X0_isTolerated : GoodIn wsX0_finedAt (wsV RX0 48 RX0 yX0_isTolerated wsX0_isTolerated) := goodIn_app (goodIn_of _ (by decide +kernel)) ggX0_finedAt_X0_isTolerated
set_option maxRecDepth 20000 in
theorem ggX1_init_X0_init : GoodIn wsX1_init wsX0_init := goodIn_r _ [18, 19, 2, 3, 4, 20, 21, 22, 32, 33, 34, 35, 36] (by decide +kernel) (by decide +kernel)
set_option maxRecDepth 20000 in
theorem gX1_init_X0_init_n25 : GoodIn wsX1_init (wsX0_init) := ggX1_init_X0_init
set_option maxRecDepth 20000 in
theorem ggX1_addMeasure_X1_needMeasure : GoodIn wsX1_addMeasure wsX1_needMeasure := goodIn_ca (goodIn_r _ [13, 14, 15, 5, 16, 17, 12, 18, 32, 33, 34, 35, 36, 37, 38, 39, 40] (by decide +kernel) (by decide +kernel)) (goodIn_sub (fun _ h => List.mem_cons_of_mem _ (List.mem_append_right _ h)) (by decide +kernel))
set_option maxRecDepth 20000 in
theorem gX1_addMeasure_X1_needMeasure : GoodIn wsX1_addMeasure (wsV RX1 40 RX1 yX1_needMeasure wsX1_needMeasure) := goodIn_app (goodIn_of _ (by decide +kernel)) ggX1_addMeasure_X1_needMeasure
set_option maxRecDepth 20000 in
theorem ggX1_addMeasure_X1_isOutside : GoodIn wsX1_addMeasure wsX1_isOutside := goodIn_r _ [18] (by decide +kernel) (by decide +kernel)
set_option maxRecDepth 20000 in
theorem gX1_addMeasure_X1_isOutside : GoodIn wsX1_addMeasure (va_wsS RX1 44 yX1_isOutside wsX1_isOutside) := goodIn_app (goodIn_of _ (by decide +kernel)) ggX1_addMeasure_X1_isOutside
set_option maxRecDepth 20000 in
theorem ggX1_addMeasure_X1_refineUnit : GoodIn wsX1_addMeasure wsX1_refineUnit := goodIn_r _ [22, 5, 6, 32, 33, 34, 35, 36, 37, 38, 39, 40] (by decide +kernel) (by decide +kernel)
set_option maxRecDepth 20000 in
theorem gX1_addMeasure_X1_refineUnit : GoodIn wsX1_addMeasure (wsV RX1 60 RX1 yX1_refineUnit wsX1_refineUnit) := goodIn_app (goodIn_of _ (by decide +kernel)) ggX1_addMeasure_X1_refineUnit
set_option maxRecDepth 20000 in
theorem ggX1_addMeasure_X1_rankLast : GoodIn wsX1_addMeasure wsX1_rankLast := goodIn_r _ [26, 5, 6, 27, 28, 29, 30, 12, 31, 32, 33, 34, 35, 36, 37, 38, 39, 40] (by decide +kernel) (by decide +kernel)
set_option maxRecDepth 20000 in
theorem gX1_addMeasure_X1_rankLast : GoodIn wsX1_addMeasure (wsV RX1 63 RX1 yX1_rankLast wsX1_rankLast) := goodIn_app (goodIn_of _ (by decide +kernel)) ggX1_addMeasure_X1_rankLast
set_option maxRecDepth 20000 in
theorem ggX1_setStandard_X1_needMeasure : GoodIn wsX1_setStandard wsX1_needMeasure := goodIn_ca (goodIn_r _ [6, 7, 8, 9, 10, 11, 5, 12, 13, 14, 15, 16, 17, 18, 19, 20, 21] (by decide +kernel) (by decide +kernel)) (goodIn_sub (fun _ h => List.mem_cons_of_mem _ (List.mem_append_right _ h)) (by decide +kernel))
set_option maxRecDepth 20000 in
theorem gX1_setStandard_X1_needMeasure : GoodIn wsX1_setStandard (wsV RX1 40 RX1 yX1_needMeasure wsX1_needMeasure) := goodIn_app (goodIn_of _ (by decide +kernel)) ggX1_setStandard_X1_needMeasure
set_option maxRecDepth 20000 in
theorem ggX1_addStall_X1_needWear : GoodIn wsX1_addStall wsX1_needWear := goodIn_ca (goodIn_r _ [7, 8, 9, 10, 11, 6, 12] (by decide +kernel) (by decide +kernel)) (goodIn_sub (fun _ h => List.mem_cons_of_mem _ (List.mem_append_right _ h)) (by decide +kernel))
set_option maxRecDepth 20000 in
theorem gX1_addStall_X1_needWear : GoodIn wsX1_addStall (va_wsS RX1 66 yX1_needWear wsX1_needWear) := goodIn_app (goodIn_of _ (by decide +kernel)) ggX1_addStall_X1_needWear
set_option maxRecDepth 20000 in
theorem ggX1_setWear_X1_needStall : GoodIn wsX1_setWear wsX1_needStall := goodIn_ca (goodIn_r _ [6, 7, 8, 1, 9, 10, 5, 11, 17, 18, 19, 20, 21, 22, 23, 24, 25, 26, 27, 28, 29, 30] (by decide +kernel) (by decide +kernel)) (goodIn_sub (fun _ h => List.mem_cons_of_mem _ (List.mem_append_left _ (List.mem_append_right _ h))) (by decide +kernel))
set_option maxRecDepth 20000 in
theorem gX1_setWear_X1_needStall : GoodIn wsX1_setWear (wsV RX1 80 RX1 yX1_needStall wsX1_needStall) := goodIn_app (goodIn_of _ (by decide +kernel)) ggX1_setWear_X1_needStall
set_option maxRecDepth 20000 in
theorem ggX1_setWear_X1_needWear : GoodIn wsX1_setWear wsX1_needWear := goodIn_ca (goodIn_r _ [14, 15, 16, 9, 10, 5, 11] (by decide +kernel) (by decide +kernel)) (goodIn_sub (fun _ h => List.mem_cons_of_mem _ (List.mem_append_right _ h)) (by decide +kernel))
set_option maxRecDepth 20000 in
theorem gX1_setWear_X1_needWear : GoodIn wsX1_setWear (va_wsS RX1 66 yX1_needWear wsX1_needWear) := goodIn_app (goodIn_of _ (by decide +kernel)) ggX1_setWear_X1_needWear
set_option maxRecDepth 20000 in
theorem ggX1_seal_X1_needStall : GoodIn wsX1_seal wsX1_needStall := goodIn_ca (goodIn_r _ [6, 7, 8, 1, 9, 10, 5, 11, 12, 13, 14, 15, 16, 17, 18, 19, 20, 21, 22, 23, 24, 25] (by decide +kernel) (by decide +kernel)) (goodIn_sub (fun _ h => List.mem_cons_of_mem _ (List.mem_append_right _ h)) (by decide +kernel))
set_option maxRecDepth 20000 in
theorem gX1_seal_X1_needStall : GoodIn wsX1_seal (wsV RX1 80 RX1 yX1_needStall wsX1_needStall) := goodIn_app (goodIn_of _ (by decide +kernel)) ggX1_seal_X1_needStall
set_option maxRecDepth 20000 in
theorem ggX1_setTolerance_X1_isOutside : GoodIn wsX1_setTolerance wsX1_isOutside := goodIn_r _ [7] (by decide +kernel) (by decide +kernel)
set_option maxRecDepth 20000 in
theorem gX1_setTolerance_X1_isOutside : GoodIn wsX1_setTolerance (va_wsS RX1 44 yX1_isOutside wsX1_isOutside) := goodIn_app (goodIn_of _ (by decide +kernel)) ggX1_setTolerance_X1_isOutside
set_option maxRecDepth 20000 in
theorem ggX1_passDays_X1_needDays : GoodIn wsX1_passDays wsX1_needDays := goodIn_ca (goodIn_r _ [6, 7, 8, 9, 10, 5, 11] (by decide +kernel) (by decide +kernel)) (goodIn_sub (fun _ h => List.mem_cons_of_mem _ (List.mem_append_right _ h)) (by decide +kernel))
set_option maxRecDepth 20000 in
theorem gX1_passDays_X1_needDays : GoodIn wsX1_passDays (va_wsS RX1 88 yX1_needDays wsX1_needDays) := goodIn_app (goodIn_of _ (by decide +kernel)) ggX1_passDays_X1_needDays
set_option maxRecDepth 20000 in
theorem ggX1_passDays_X0_coinsPaidIn : GoodIn wsX1_passDays wsX0_coinsPaidIn := goodIn_r _ [15, 16, 17, 18, 13, 19, 20, 21, 22, 23, 24, 25, 26, 27, 28, 29, 30, 31, 32, 33, 34, 35, 36, 37, 38, 39, 40, 41, 42, 43, 44, 45, 46, 47, 48, 49, 50, 51, 52, 53, 63, 64, 65, 66, 67] (by decide +kernel) (by decide +kernel)
set_option maxRecDepth 20000 in
theorem gX1_passDays_X0_coinsPaidIn_n91 : GoodIn wsX1_passDays (wsX0_coinsPaidIn) := ggX1_passDays_X0_coinsPaidIn
set_option maxRecDepth 20000 in
theorem ggX1_baseOf_X1_needMeasure : GoodIn wsX1_baseOf wsX1_needMeasure := goodIn_ca (goodIn_r _ [6, 7, 8, 9, 10, 11, 5, 12, 13, 14, 15, 16, 17, 18, 19, 20, 21] (by decide +kernel) (by decide +kernel)) (goodIn_sub (fun _ h => List.mem_cons_of_mem _ (List.mem_append_right _ h)) (by decide +kernel))
set_option maxRecDepth 20000 in
theorem gX1_baseOf_X1_needMeasure : GoodIn wsX1_baseOf (wsV RX1 40 RX1 yX1_needMeasure wsX1_needMeasure) := goodIn_app (goodIn_of _ (by decide +kernel)) ggX1_baseOf_X1_needMeasure
set_option maxRecDepth 20000 in
theorem ggX1_stepsToEll_X1_needMeasure : GoodIn wsX1_stepsToEll wsX1_needMeasure := goodIn_ca (goodIn_r _ [6, 7, 8, 9, 10, 11, 5, 12, 13, 14, 15, 16, 17, 18, 19, 20, 21] (by decide +kernel) (by decide +kernel)) (goodIn_sub (fun _ h => List.mem_cons_of_mem _ (List.mem_append_right _ h)) (by decide +kernel))
set_option maxRecDepth 20000 in
theorem gX1_stepsToEll_X1_needMeasure : GoodIn wsX1_stepsToEll (wsV RX1 40 RX1 yX1_needMeasure wsX1_needMeasure) := goodIn_app (goodIn_of _ (by decide +kernel)) ggX1_stepsToEll_X1_needMeasure
set_option maxRecDepth 20000 in
theorem ggX1_lengthTop_X1_needMeasure : GoodIn wsX1_lengthTop wsX1_needMeasure := goodIn_ca (goodIn_r _ [7, 8, 9, 10, 11, 12, 6, 13, 23, 24, 25, 26, 27, 28, 29, 30, 31] (by decide +kernel) (by decide +kernel)) (goodIn_sub (fun _ h => List.mem_cons_of_mem _ (List.mem_append_right _ h)) (by decide +kernel))
set_option maxRecDepth 20000 in
theorem gX1_lengthTop_X1_needMeasure : GoodIn wsX1_lengthTop (wsV RX1 40 RX1 yX1_needMeasure wsX1_needMeasure) := goodIn_app (goodIn_of _ (by decide +kernel)) ggX1_lengthTop_X1_needMeasure
set_option maxRecDepth 20000 in
theorem ggX1_lengthTop_X1_withoutCommonDivisor : GoodIn wsX1_lengthTop wsX1_withoutCommonDivisor := goodIn_r _ [16, 17, 18, 6, 19, 20, 21, 22] (by decide +kernel) (by decide +kernel)
set_option maxRecDepth 20000 in
theorem gX1_lengthTop_X1_withoutCommonDivisor : GoodIn wsX1_lengthTop (va_wsS RX1 101 yX1_withoutCommonDivisor wsX1_withoutCommonDivisor) := goodIn_app (goodIn_of _ (by decide +kernel)) ggX1_lengthTop_X1_withoutCommonDivisor
set_option maxRecDepth 20000 in
theorem ggX1_lengthBottom_X1_needMeasure : GoodIn wsX1_lengthBottom wsX1_needMeasure := goodIn_ca (goodIn_r _ [7, 8, 9, 10, 11, 12, 6, 13, 23, 24, 25, 26, 27, 28, 29, 30, 31] (by decide +kernel) (by decide +kernel)) (goodIn_sub (fun _ h => List.mem_cons_of_mem _ (List.mem_append_right _ h)) (by decide +kernel))
set_option maxRecDepth 20000 in
theorem gX1_lengthBottom_X1_needMeasure : GoodIn wsX1_lengthBottom (wsV RX1 40 RX1 yX1_needMeasure wsX1_needMeasure) := goodIn_app (goodIn_of _ (by decide +kernel)) ggX1_lengthBottom_X1_needMeasure
set_option maxRecDepth 20000 in
theorem ggX1_lengthBottom_X1_withoutCommonDivisor : GoodIn wsX1_lengthBottom wsX1_withoutCommonDivisor := goodIn_r _ [16, 17, 18, 6, 19, 20, 21, 22] (by decide +kernel) (by decide +kernel)
set_option maxRecDepth 20000 in
theorem gX1_lengthBottom_X1_withoutCommonDivisor : GoodIn wsX1_lengthBottom (va_wsS RX1 101 yX1_withoutCommonDivisor wsX1_withoutCommonDivisor) := goodIn_app (goodIn_of _ (by decide +kernel)) ggX1_lengthBottom_X1_withoutCommonDivisor
set_option maxRecDepth 20000 in
theorem ggX1_isLonger_X1_needMeasure : GoodIn wsX1_isLonger wsX1_needMeasure := goodIn_ca (goodIn_r _ [6, 7, 8, 9, 10, 11, 5, 12, 13, 14, 15, 16, 17, 18, 19, 20, 21] (by decide +kernel) (by decide +kernel)) (goodIn_sub (fun _ h => List.mem_cons_of_mem _ (List.mem_append_right _ h)) (by decide +kernel))
set_option maxRecDepth 20000 in
theorem gX1_isLonger_X1_needMeasure : GoodIn wsX1_isLonger (wsV RX1 40 RX1 yX1_needMeasure wsX1_needMeasure) := goodIn_app (goodIn_of _ (by decide +kernel)) ggX1_isLonger_X1_needMeasure
set_option maxRecDepth 20000 in
theorem ggX1_fewestToMeet_X1_needMeasure : GoodIn wsX1_fewestToMeet wsX1_needMeasure := goodIn_ca (goodIn_r _ [6, 7, 8, 9, 10, 11, 5, 12, 22, 23, 24, 25, 26, 27, 28, 29, 30] (by decide +kernel) (by decide +kernel)) (goodIn_sub (fun _ h => List.mem_cons_of_mem _ (List.mem_append_right _ h)) (by decide +kernel))
set_option maxRecDepth 20000 in
theorem gX1_fewestToMeet_X1_needMeasure : GoodIn wsX1_fewestToMeet (wsV RX1 40 RX1 yX1_needMeasure wsX1_needMeasure) := goodIn_app (goodIn_of _ (by decide +kernel)) ggX1_fewestToMeet_X1_needMeasure
set_option maxRecDepth 20000 in
theorem ggX1_fewestToMeet_X1_withoutCommonDivisor : GoodIn wsX1_fewestToMeet wsX1_withoutCommonDivisor := goodIn_r _ [15, 16, 17, 5, 18, 19, 20, 21] (by decide +kernel) (by decide +kernel)
set_option maxRecDepth 20000 in
theorem gX1_fewestToMeet_X1_withoutCommonDivisor : GoodIn wsX1_fewestToMeet (va_wsS RX1 101 yX1_withoutCommonDivisor wsX1_withoutCommonDivisor) := goodIn_app (goodIn_of _ (by decide +kernel)) ggX1_fewestToMeet_X1_withoutCommonDivisor
set_option maxRecDepth 20000 in
theorem ggX1_convert_X1_needMeasure : GoodIn wsX1_convert wsX1_needMeasure := goodIn_ca (goodIn_r _ [6, 7, 8, 9, 10, 11, 5, 12, 21, 22, 23, 24, 25, 26, 27, 28, 29] (by decide +kernel) (by decide +kernel)) (goodIn_sub (fun _ h => List.mem_cons_of_mem _ (List.mem_append_left _ (List.mem_append_right _ h))) (by decide +kernel))
set_option maxRecDepth 20000 in
theorem gX1_convert_X1_needMeasure : GoodIn wsX1_convert (wsV RX1 40 RX1 yX1_needMeasure wsX1_needMeasure) := goodIn_app (goodIn_of _ (by decide +kernel)) ggX1_convert_X1_needMeasure
set_option maxRecDepth 20000 in
theorem ggX1_convert_X1_needMany : GoodIn wsX1_convert wsX1_needMany := goodIn_ca (goodIn_r _ [15, 16, 17, 10, 11, 5, 12] (by decide +kernel) (by decide +kernel)) (goodIn_sub (fun _ h => List.mem_cons_of_mem _ (List.mem_append_right _ h)) (by decide +kernel))
set_option maxRecDepth 20000 in
theorem gX1_convert_X1_needMany : GoodIn wsX1_convert (va_wsS RX1 105 yX1_needMany wsX1_needMany) := goodIn_app (goodIn_of _ (by decide +kernel)) ggX1_convert_X1_needMany
set_option maxRecDepth 20000 in
theorem ggX1_convert_X1_timesIn : GoodIn wsX1_convert wsX1_timesIn := goodIn_r _ [20] (by decide +kernel) (by decide +kernel)
set_option maxRecDepth 20000 in
theorem gX1_convert_X1_timesIn : GoodIn wsX1_convert (va_wsS RX1 108 yX1_timesIn wsX1_timesIn) := goodIn_app (goodIn_of _ (by decide +kernel)) ggX1_convert_X1_timesIn
set_option maxRecDepth 20000 in
theorem ggX1_isExact_X1_needMeasure : GoodIn wsX1_isExact wsX1_needMeasure := goodIn_ca (goodIn_r _ [6, 7, 8, 9, 10, 11, 5, 12, 21, 22, 23, 24, 25, 26, 27, 28, 29] (by decide +kernel) (by decide +kernel)) (goodIn_sub (fun _ h => List.mem_cons_of_mem _ (List.mem_append_left _ (List.mem_append_right _ h))) (by decide +kernel))
set_option maxRecDepth 20000 in
theorem gX1_isExact_X1_needMeasure : GoodIn wsX1_isExact (wsV RX1 40 RX1 yX1_needMeasure wsX1_needMeasure) := goodIn_app (goodIn_of _ (by decide +kernel)) ggX1_isExact_X1_needMeasure
set_option maxRecDepth 20000 in
theorem ggX1_isExact_X1_needMany : GoodIn wsX1_isExact wsX1_needMany := goodIn_ca (goodIn_r _ [15, 16, 17, 10, 11, 5, 12] (by decide +kernel) (by decide +kernel)) (goodIn_sub (fun _ h => List.mem_cons_of_mem _ (List.mem_append_right _ h)) (by decide +kernel))
set_option maxRecDepth 20000 in
theorem gX1_isExact_X1_needMany : GoodIn wsX1_isExact (va_wsS RX1 105 yX1_needMany wsX1_needMany) := goodIn_app (goodIn_of _ (by decide +kernel)) ggX1_isExact_X1_needMany
set_option maxRecDepth 20000 in
theorem ggX1_isExact_X1_leftOf : GoodIn wsX1_isExact wsX1_leftOf := goodIn_r _ [20] (by decide +kernel) (by decide +kernel)
set_option maxRecDepth 20000 in
theorem gX1_isExact_X1_leftOf : GoodIn wsX1_isExact (va_wsS RX1 111 yX1_leftOf wsX1_leftOf) := goodIn_app (goodIn_of _ (by decide +kernel)) ggX1_isExact_X1_leftOf
set_option maxRecDepth 20000 in
theorem ggX1_driftOf_X1_needStall : GoodIn wsX1_driftOf wsX1_needStall := goodIn_ca (goodIn_r _ [6, 7, 8, 1, 9, 10, 5, 11, 12, 13, 14, 15, 16, 17, 18, 19, 20, 21, 22, 23, 24, 25] (by decide +kernel) (by decide +kernel)) (goodIn_sub (fun _ h => List.mem_cons_of_mem _ (List.mem_append_right _ h)) (by decide +kernel))
set_option maxRecDepth 20000 in
theorem gX1_driftOf_X1_needStall : GoodIn wsX1_driftOf (wsV RX1 80 RX1 yX1_needStall wsX1_needStall) := goodIn_app (goodIn_of _ (by decide +kernel)) ggX1_driftOf_X1_needStall
set_option maxRecDepth 20000 in
theorem ggX1_wearOf_X1_needStall : GoodIn wsX1_wearOf wsX1_needStall := goodIn_ca (goodIn_r _ [6, 7, 8, 1, 9, 10, 5, 11, 12, 13, 14, 15, 16, 17, 18, 19, 20, 21, 22, 23, 24, 25] (by decide +kernel) (by decide +kernel)) (goodIn_sub (fun _ h => List.mem_cons_of_mem _ (List.mem_append_right _ h)) (by decide +kernel))
set_option maxRecDepth 20000 in
theorem gX1_wearOf_X1_needStall : GoodIn wsX1_wearOf (wsV RX1 80 RX1 yX1_needStall wsX1_needStall) := goodIn_app (goodIn_of _ (by decide +kernel)) ggX1_wearOf_X1_needStall
set_option maxRecDepth 20000 in
theorem ggX1_isHonest_X1_needStall : GoodIn wsX1_isHonest wsX1_needStall := goodIn_ca (goodIn_r _ [6, 7, 8, 1, 9, 10, 5, 11, 21, 22, 23, 24, 25, 26, 27, 28, 29, 30, 31, 32, 33, 34] (by decide +kernel) (by decide +kernel)) (goodIn_sub (fun _ h => List.mem_cons_of_mem _ (List.mem_append_right _ h)) (by decide +kernel))
set_option maxRecDepth 20000 in
theorem gX1_isHonest_X1_needStall : GoodIn wsX1_isHonest (wsV RX1 80 RX1 yX1_needStall wsX1_needStall) := goodIn_app (goodIn_of _ (by decide +kernel)) ggX1_isHonest_X1_needStall
set_option maxRecDepth 20000 in
theorem ggX1_isHonest_X0_isTolerated : GoodIn wsX1_isHonest wsX0_isTolerated := goodIn_r _ [15, 16, 17, 18, 19, 20, 30, 31, 32, 33, 34] (by decide +kernel) (by decide +kernel)
set_option maxRecDepth 20000 in
theorem gX1_isHonest_X0_isTolerated_n118 : GoodIn wsX1_isHonest (wsX0_isTolerated) := ggX1_isHonest_X0_isTolerated
set_option maxRecDepth 20000 in
theorem ggX1_getsAt_X1_needStall : GoodIn wsX1_getsAt wsX1_needStall := goodIn_ca (goodIn_r _ [6, 7, 8, 1, 9, 10, 5, 11, 31, 32, 33, 34, 35, 36, 37, 38, 39, 40, 41, 42, 43, 44] (by decide +kernel) (by decide +kernel)) (goodIn_sub (fun _ h => List.mem_cons_of_mem _ (List.mem_append_left _ (List.mem_append_right _ h))) (by decide +kernel))
set_option maxRecDepth 20000 in
theorem gX1_getsAt_X1_needStall : GoodIn wsX1_getsAt (wsV RX1 80 RX1 yX1_needStall wsX1_needStall) := goodIn_app (goodIn_of _ (by decide +kernel)) ggX1_getsAt_X1_needStall
set_option maxRecDepth 20000 in
theorem ggX1_getsAt_X1_needMeasure : GoodIn wsX1_getsAt wsX1_needMeasure := goodIn_ca (goodIn_r _ [15, 7, 8, 16, 9, 10, 5, 11, 31, 32, 33, 34, 35, 36, 37, 38, 39] (by decide +kernel) (by decide +kernel)) (goodIn_sub (fun _ h => List.mem_cons_of_mem _ (List.mem_append_left _ (List.mem_append_right _ h))) (by decide +kernel))
set_option maxRecDepth 20000 in
theorem gX1_getsAt_X1_needMeasure : GoodIn wsX1_getsAt (wsV RX1 40 RX1 yX1_needMeasure wsX1_needMeasure) := goodIn_app (goodIn_of _ (by decide +kernel)) ggX1_getsAt_X1_needMeasure
set_option maxRecDepth 20000 in
theorem ggX1_getsAt_X1_needMany : GoodIn wsX1_getsAt wsX1_needMany := goodIn_ca (goodIn_r _ [19, 20, 21, 9, 10, 5, 11] (by decide +kernel) (by decide +kernel)) (goodIn_sub (fun _ h => List.mem_cons_of_mem _ (List.mem_append_right _ h)) (by decide +kernel))
set_option maxRecDepth 20000 in
theorem gX1_getsAt_X1_needMany : GoodIn wsX1_getsAt (va_wsS RX1 105 yX1_needMany wsX1_needMany) := goodIn_app (goodIn_of _ (by decide +kernel)) ggX1_getsAt_X1_needMany
set_option maxRecDepth 20000 in
theorem ggX1_getsAt_X1_givenWith : GoodIn wsX1_getsAt wsX1_givenWith := goodIn_r _ [25, 26, 27, 28, 29, 5, 30, 31, 32, 33, 34, 35, 36, 37, 38, 39] (by decide +kernel) (by decide +kernel)
set_option maxRecDepth 20000 in
theorem gX1_getsAt_X1_givenWith : GoodIn wsX1_getsAt (wsV RX1 122 RX1 yX1_givenWith wsX1_givenWith) := goodIn_app (goodIn_of _ (by decide +kernel)) ggX1_getsAt_X1_givenWith
set_option maxRecDepth 20000 in
theorem ggX1_lossAt_X1_needStall : GoodIn wsX1_lossAt wsX1_needStall := goodIn_ca (goodIn_r _ [6, 7, 8, 1, 9, 10, 5, 11, 31, 32, 33, 34, 35, 36, 37, 38, 39, 40, 41, 42, 43, 44] (by decide +kernel) (by decide +kernel)) (goodIn_sub (fun _ h => List.mem_cons_of_mem _ (List.mem_append_left _ (List.mem_append_right _ h))) (by decide +kernel))
set_option maxRecDepth 20000 in
theorem gX1_lossAt_X1_needStall : GoodIn wsX1_lossAt (wsV RX1 80 RX1 yX1_needStall wsX1_needStall) := goodIn_app (goodIn_of _ (by decide +kernel)) ggX1_lossAt_X1_needStall
set_option maxRecDepth 20000 in
theorem ggX1_lossAt_X1_needMeasure : GoodIn wsX1_lossAt wsX1_needMeasure := goodIn_ca (goodIn_r _ [15, 7, 8, 16, 9, 10, 5, 11, 31, 32, 33, 34, 35, 36, 37, 38, 39] (by decide +kernel) (by decide +kernel)) (goodIn_sub (fun _ h => List.mem_cons_of_mem _ (List.mem_append_left _ (List.mem_append_right _ h))) (by decide +kernel))
set_option maxRecDepth 20000 in
theorem gX1_lossAt_X1_needMeasure : GoodIn wsX1_lossAt (wsV RX1 40 RX1 yX1_needMeasure wsX1_needMeasure) := goodIn_app (goodIn_of _ (by decide +kernel)) ggX1_lossAt_X1_needMeasure
set_option maxRecDepth 20000 in
theorem ggX1_lossAt_X1_needMany : GoodIn wsX1_lossAt wsX1_needMany := goodIn_ca (goodIn_r _ [19, 20, 21, 9, 10, 5, 11] (by decide +kernel) (by decide +kernel)) (goodIn_sub (fun _ h => List.mem_cons_of_mem _ (List.mem_append_right _ h)) (by decide +kernel))
set_option maxRecDepth 20000 in
theorem gX1_lossAt_X1_needMany : GoodIn wsX1_lossAt (va_wsS RX1 105 yX1_needMany wsX1_needMany) := goodIn_app (goodIn_of _ (by decide +kernel)) ggX1_lossAt_X1_needMany
set_option maxRecDepth 20000 in
theorem ggX1_lossAt_X1_givenWith : GoodIn wsX1_lossAt wsX1_givenWith := goodIn_r _ [25, 26, 27, 28, 29, 5, 30, 31, 32, 33, 34, 35, 36, 37, 38, 39] (by decide +kernel) (by decide +kernel)
set_option maxRecDepth 20000 in
theorem gX1_lossAt_X1_givenWith : GoodIn wsX1_lossAt (wsV RX1 122 RX1 yX1_givenWith wsX1_givenWith) := goodIn_app (goodIn_of _ (by decide +kernel)) ggX1_lossAt_X1_givenWith
set_option maxRecDepth 20000 in
theorem ggX1_needMeasure_X1_isOutside : GoodIn wsX1_needMeasure wsX1_isOutside := goodIn_r _ [7] (by decide +kernel) (by decide +kernel)
set_option maxRecDepth 20000 in
theorem gX1_needMeasure_X1_isOutside : GoodIn wsX1_needMeasure (va_wsS RX1 44 yX1_isOutside wsX1_isOutside) := goodIn_app (goodIn_of _ (by decide +kernel)) ggX1_needMeasure_X1_isOutside
set_option maxRecDepth 20000 in
theorem ggX1_needStall_X1_isOutside : GoodIn wsX1_needStall wsX1_isOutside := goodIn_r _ [7] (by decide +kernel) (by decide +kernel)
set_option maxRecDepth 20000 in
theorem gX1_needStall_X1_isOutside : GoodIn wsX1_needStall (va_wsS RX1 44 yX1_isOutside wsX1_isOutside) := goodIn_app (goodIn_of _ (by decide +kernel)) ggX1_needStall_X1_isOutside
set_option maxRecDepth 20000 in
theorem ggX1_needWear_X1_isOutside : GoodIn wsX1_needWear wsX1_isOutside := goodIn_r _ [6] (by decide +kernel) (by decide +kernel)
set_option maxRecDepth 20000 in
theorem gX1_needWear_X1_isOutside : GoodIn wsX1_needWear (va_wsS RX1 44 yX1_isOutside wsX1_isOutside) := goodIn_app (goodIn_of _ (by decide +kernel)) ggX1_needWear_X1_isOutside
set_option maxRecDepth 20000 in
theorem ggX1_needDays_X1_isOutside : GoodIn wsX1_needDays wsX1_isOutside := goodIn_r _ [6] (by decide +kernel) (by decide +kernel)
set_option maxRecDepth 20000 in
theorem gX1_needDays_X1_isOutside : GoodIn wsX1_needDays (va_wsS RX1 44 yX1_isOutside wsX1_isOutside) := goodIn_app (goodIn_of _ (by decide +kernel)) ggX1_needDays_X1_isOutside
set_option maxRecDepth 20000 in
theorem ggX1_needMany_X1_isOutside : GoodIn wsX1_needMany wsX1_isOutside := goodIn_r _ [6] (by decide +kernel) (by decide +kernel)
set_option maxRecDepth 20000 in
theorem gX1_needMany_X1_isOutside : GoodIn wsX1_needMany (va_wsS RX1 44 yX1_isOutside wsX1_isOutside) := goodIn_app (goodIn_of _ (by decide +kernel)) ggX1_needMany_X1_isOutside
set_option maxRecDepth 20000 in
theorem ggX1_rankLast_X1_lengthAt : GoodIn wsX1_rankLast wsX1_lengthAt := goodIn_r _ [8, 2, 3, 9, 10, 11, 12, 13, 14, 15, 16, 17] (by decide +kernel) (by decide +kernel)
set_option maxRecDepth 20000 in
theorem gX1_rankLast_X1_lengthAt : GoodIn wsX1_rankLast (wsV RX1 114 RX1 yX1_lengthAt wsX1_lengthAt) := goodIn_app (goodIn_of _ (by decide +kernel)) ggX1_rankLast_X1_lengthAt
set_option maxRecDepth 20000 in
theorem ggX1_givenWith_X1_timesIn : GoodIn wsX1_givenWith wsX1_timesIn := goodIn_r _ [6] (by decide +kernel) (by decide +kernel)
set_option maxRecDepth 20000 in
theorem gX1_givenWith_X1_timesIn : GoodIn wsX1_givenWith (va_wsS RX1 108 yX1_timesIn wsX1_timesIn) := goodIn_app (goodIn_of _ (by decide +kernel)) ggX1_givenWith_X1_timesIn
set_option maxRecDepth 20000 in
theorem ggX1_withoutCommonDivisor_X1_greatestCommonDivisor : GoodIn wsX1_withoutCommonDivisor wsX1_greatestCommonDivisor := goodIn_r _ [4] (by decide +kernel) (by decide +kernel)
set_option maxRecDepth 20000 in
theorem gX1_withoutCommonDivisor_X1_greatestCommonDivisor : GoodIn wsX1_withoutCommonDivisor (va_wsS RX1 234 yX1_greatestCommonDivisor wsX1_greatestCommonDivisor) := goodIn_app (goodIn_of _ (by decide +kernel)) ggX1_withoutCommonDivisor_X1_greatestCommonDivisor
set_option maxRecDepth 20000 in
theorem ggX1_withoutCommonDivisor_X1_timesIn : GoodIn wsX1_withoutCommonDivisor wsX1_timesIn := goodIn_r _ [7] (by decide +kernel) (by decide +kernel)
set_option maxRecDepth 20000 in
theorem gX1_withoutCommonDivisor_X1_timesIn : GoodIn wsX1_withoutCommonDivisor (va_wsS RX1 108 yX1_timesIn wsX1_timesIn) := goodIn_app (goodIn_of _ (by decide +kernel)) ggX1_withoutCommonDivisor_X1_timesIn
