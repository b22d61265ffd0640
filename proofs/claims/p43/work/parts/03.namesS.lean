theorem dX2_init_0 : decode cX2_init 0 = .ok (.aload_n 0, 1) := by decide +kernel
theorem dX2_init_1 : decode cX2_init 1 = .ok (.invokespecial 1, 3) := by decide +kernel
theorem dX2_init_4 : decode cX2_init 4 = .ok (.aload_n 0, 1) := by decide +kernel
theorem dX2_init_5 : decode cX2_init 5 = .ok (.bipush 10, 2) := by decide +kernel
theorem dX2_init_7 : decode cX2_init 7 = .ok (.putfield 7, 3) := by decide +kernel
theorem dX2_init_10 : decode cX2_init 10 = .ok (.aload_n 0, 1) := by decide +kernel
theorem dX2_init_11 : decode cX2_init 11 = .ok (.iconst 1, 1) := by decide +kernel
theorem dX2_init_12 : decode cX2_init 12 = .ok (.anewarray 13, 3) := by decide +kernel
theorem dX2_init_15 : decode cX2_init 15 = .ok (.dup, 1) := by decide +kernel
theorem dX2_init_16 : decode cX2_init 16 = .ok (.iconst 0, 1) := by decide +kernel
theorem dX2_init_17 : decode cX2_init 17 = .ok (.iconst 3, 1) := by decide +kernel
theorem dX2_init_18 : decode cX2_init 18 = .ok (.newarray .int, 2) := by decide +kernel
theorem dX2_init_20 : decode cX2_init 20 = .ok (.dup, 1) := by decide +kernel
theorem dX2_init_21 : decode cX2_init 21 = .ok (.iconst 0, 1) := by decide +kernel
theorem dX2_init_22 : decode cX2_init 22 = .ok (.iconst (-1), 1) := by decide +kernel
theorem dX2_init_23 : decode cX2_init 23 = .ok (.iastore, 1) := by decide +kernel
theorem dX2_init_24 : decode cX2_init 24 = .ok (.dup, 1) := by decide +kernel
theorem dX2_init_25 : decode cX2_init 25 = .ok (.iconst 1, 1) := by decide +kernel
theorem dX2_init_26 : decode cX2_init 26 = .ok (.iconst 1, 1) := by decide +kernel
theorem dX2_init_27 : decode cX2_init 27 = .ok (.iastore, 1) := by decide +kernel
theorem dX2_init_28 : decode cX2_init 28 = .ok (.dup, 1) := by decide +kernel
theorem dX2_init_29 : decode cX2_init 29 = .ok (.iconst 2, 1) := by decide +kernel
theorem dX2_init_30 : decode cX2_init 30 = .ok (.iconst 1, 1) := by decide +kernel
theorem dX2_init_31 : decode cX2_init 31 = .ok (.iastore, 1) := by decide +kernel
theorem dX2_init_32 : decode cX2_init 32 = .ok (.aastore, 1) := by decide +kernel
theorem dX2_init_33 : decode cX2_init 33 = .ok (.putfield 15, 3) := by decide +kernel
theorem dX2_init_36 : decode cX2_init 36 = .ok (.aload_n 0, 1) := by decide +kernel
theorem dX2_init_37 : decode cX2_init 37 = .ok (.iconst 0, 1) := by decide +kernel
theorem dX2_init_38 : decode cX2_init 38 = .ok (.anewarray 13, 3) := by decide +kernel
theorem dX2_init_41 : decode cX2_init 41 = .ok (.putfield 19, 3) := by decide +kernel
theorem dX2_init_44 : decode cX2_init 44 = .ok (.return_, 1) := by decide +kernel
theorem dX2_with_0 : decode cX2_with 0 = .ok (.aload_n 0, 1) := by decide +kernel
theorem dX2_with_1 : decode cX2_with 1 = .ok (.arraylength, 1) := by decide +kernel
theorem dX2_with_2 : decode cX2_with 2 = .ok (.iconst 1, 1) := by decide +kernel
theorem dX2_with_3 : decode cX2_with 3 = .ok (.iadd, 1) := by decide +kernel
theorem dX2_with_4 : decode cX2_with 4 = .ok (.anewarray 13, 3) := by decide +kernel
theorem dX2_with_7 : decode cX2_with 7 = .ok (.astore_n 2, 1) := by decide +kernel
theorem dX2_with_8 : decode cX2_with 8 = .ok (.iconst 0, 1) := by decide +kernel
theorem dX2_with_9 : decode cX2_with 9 = .ok (.istore_n 3, 1) := by decide +kernel
theorem dX2_with_10 : decode cX2_with 10 = .ok (.iload_n 3, 1) := by decide +kernel
theorem dX2_with_11 : decode cX2_with 11 = .ok (.aload_n 0, 1) := by decide +kernel
theorem dX2_with_12 : decode cX2_with 12 = .ok (.arraylength, 1) := by decide +kernel
theorem dX2_with_13 : decode cX2_with 13 = .ok (.if_icmp .ge 15, 3) := by decide +kernel
theorem dX2_with_16 : decode cX2_with 16 = .ok (.aload_n 2, 1) := by decide +kernel
theorem dX2_with_17 : decode cX2_with 17 = .ok (.iload_n 3, 1) := by decide +kernel
theorem dX2_with_18 : decode cX2_with 18 = .ok (.aload_n 0, 1) := by decide +kernel
theorem dX2_with_19 : decode cX2_with 19 = .ok (.iload_n 3, 1) := by decide +kernel
theorem dX2_with_20 : decode cX2_with 20 = .ok (.aaload, 1) := by decide +kernel
theorem dX2_with_21 : decode cX2_with 21 = .ok (.aastore, 1) := by decide +kernel
theorem dX2_with_22 : decode cX2_with 22 = .ok (.iinc 3 1, 3) := by decide +kernel
theorem dX2_with_25 : decode cX2_with 25 = .ok (.goto (-15), 3) := by decide +kernel
theorem dX2_with_28 : decode cX2_with 28 = .ok (.aload_n 2, 1) := by decide +kernel
theorem dX2_with_29 : decode cX2_with 29 = .ok (.aload_n 0, 1) := by decide +kernel
theorem dX2_with_30 : decode cX2_with 30 = .ok (.arraylength, 1) := by decide +kernel
theorem dX2_with_31 : decode cX2_with 31 = .ok (.aload_n 1, 1) := by decide +kernel
theorem dX2_with_32 : decode cX2_with 32 = .ok (.aastore, 1) := by decide +kernel
theorem dX2_with_33 : decode cX2_with 33 = .ok (.aload_n 2, 1) := by decide +kernel
theorem dX2_with_34 : decode cX2_with 34 = .ok (.areturn, 1) := by decide +kernel
theorem dX2_divisor_0 : decode cX2_divisor 0 = .ok (.lload_n 2, 1) := by decide +kernel
theorem dX2_divisor_1 : decode cX2_divisor 1 = .ok (.lconst 0, 1) := by decide +kernel
theorem dX2_divisor_2 : decode cX2_divisor 2 = .ok (.lcmp, 1) := by decide +kernel
theorem dX2_divisor_3 : decode cX2_divisor 3 = .ok (.ifCond .ne 7, 3) := by decide +kernel
theorem dX2_divisor_6 : decode cX2_divisor 6 = .ok (.lload_n 0, 1) := by decide +kernel
theorem dX2_divisor_7 : decode cX2_divisor 7 = .ok (.goto 10, 3) := by decide +kernel
theorem dX2_divisor_10 : decode cX2_divisor 10 = .ok (.lload_n 2, 1) := by decide +kernel
theorem dX2_divisor_11 : decode cX2_divisor 11 = .ok (.lload_n 0, 1) := by decide +kernel
theorem dX2_divisor_12 : decode cX2_divisor 12 = .ok (.lload_n 2, 1) := by decide +kernel
theorem dX2_divisor_13 : decode cX2_divisor 13 = .ok (.lrem, 1) := by decide +kernel
theorem dX2_divisor_14 : decode cX2_divisor 14 = .ok (.invokestatic 22, 3) := by decide +kernel
theorem dX2_divisor_17 : decode cX2_divisor 17 = .ok (.lreturn, 1) := by decide +kernel
theorem dX2_ratio_0 : decode cX2_ratio 0 = .ok (.lconst 1, 1) := by decide +kernel
theorem dX2_ratio_1 : decode cX2_ratio 1 = .ok (.lstore_n 3, 1) := by decide +kernel
theorem dX2_ratio_2 : decode cX2_ratio 2 = .ok (.lconst 1, 1) := by decide +kernel
theorem dX2_ratio_3 : decode cX2_ratio 3 = .ok (.lstore 5, 2) := by decide +kernel
theorem dX2_ratio_5 : decode cX2_ratio 5 = .ok (.iload_n 1, 1) := by decide +kernel
theorem dX2_ratio_6 : decode cX2_ratio 6 = .ok (.istore 7, 2) := by decide +kernel
theorem dX2_ratio_8 : decode cX2_ratio 8 = .ok (.iload 7, 2) := by decide +kernel
theorem dX2_ratio_10 : decode cX2_ratio 10 = .ok (.ifCond .le 45, 3) := by decide +kernel
theorem dX2_ratio_13 : decode cX2_ratio 13 = .ok (.lload_n 3, 1) := by decide +kernel
theorem dX2_ratio_14 : decode cX2_ratio 14 = .ok (.aload_n 0, 1) := by decide +kernel
theorem dX2_ratio_15 : decode cX2_ratio 15 = .ok (.getfield 15, 3) := by decide +kernel
theorem dX2_ratio_18 : decode cX2_ratio 18 = .ok (.iload 7, 2) := by decide +kernel
theorem dX2_ratio_20 : decode cX2_ratio 20 = .ok (.aaload, 1) := by decide +kernel
theorem dX2_ratio_21 : decode cX2_ratio 21 = .ok (.iconst 1, 1) := by decide +kernel
theorem dX2_ratio_22 : decode cX2_ratio 22 = .ok (.iaload, 1) := by decide +kernel
theorem dX2_ratio_23 : decode cX2_ratio 23 = .ok (.i2l, 1) := by decide +kernel
theorem dX2_ratio_24 : decode cX2_ratio 24 = .ok (.lmul, 1) := by decide +kernel
theorem dX2_ratio_25 : decode cX2_ratio 25 = .ok (.lstore_n 3, 1) := by decide +kernel
theorem dX2_ratio_26 : decode cX2_ratio 26 = .ok (.lload 5, 2) := by decide +kernel
theorem dX2_ratio_28 : decode cX2_ratio 28 = .ok (.aload_n 0, 1) := by decide +kernel
theorem dX2_ratio_29 : decode cX2_ratio 29 = .ok (.getfield 15, 3) := by decide +kernel
theorem dX2_ratio_32 : decode cX2_ratio 32 = .ok (.iload 7, 2) := by decide +kernel
theorem dX2_ratio_34 : decode cX2_ratio 34 = .ok (.aaload, 1) := by decide +kernel
theorem dX2_ratio_35 : decode cX2_ratio 35 = .ok (.iconst 2, 1) := by decide +kernel
theorem dX2_ratio_36 : decode cX2_ratio 36 = .ok (.iaload, 1) := by decide +kernel
theorem dX2_ratio_37 : decode cX2_ratio 37 = .ok (.i2l, 1) := by decide +kernel
theorem dX2_ratio_38 : decode cX2_ratio 38 = .ok (.lmul, 1) := by decide +kernel
theorem dX2_ratio_39 : decode cX2_ratio 39 = .ok (.lstore 5, 2) := by decide +kernel
theorem dX2_ratio_41 : decode cX2_ratio 41 = .ok (.aload_n 0, 1) := by decide +kernel
theorem dX2_ratio_42 : decode cX2_ratio 42 = .ok (.getfield 15, 3) := by decide +kernel
theorem dX2_ratio_45 : decode cX2_ratio 45 = .ok (.iload 7, 2) := by decide +kernel
theorem dX2_ratio_47 : decode cX2_ratio 47 = .ok (.aaload, 1) := by decide +kernel
theorem dX2_ratio_48 : decode cX2_ratio 48 = .ok (.iconst 0, 1) := by decide +kernel
theorem dX2_ratio_49 : decode cX2_ratio 49 = .ok (.iaload, 1) := by decide +kernel
theorem dX2_ratio_50 : decode cX2_ratio 50 = .ok (.istore 7, 2) := by decide +kernel
theorem dX2_ratio_52 : decode cX2_ratio 52 = .ok (.goto (-44), 3) := by decide +kernel
theorem dX2_ratio_55 : decode cX2_ratio 55 = .ok (.iload_n 2, 1) := by decide +kernel
theorem dX2_ratio_56 : decode cX2_ratio 56 = .ok (.istore 7, 2) := by decide +kernel
theorem dX2_ratio_58 : decode cX2_ratio 58 = .ok (.iload 7, 2) := by decide +kernel
theorem dX2_ratio_60 : decode cX2_ratio 60 = .ok (.ifCond .le 45, 3) := by decide +kernel
theorem dX2_ratio_63 : decode cX2_ratio 63 = .ok (.lload 5, 2) := by decide +kernel
theorem dX2_ratio_65 : decode cX2_ratio 65 = .ok (.aload_n 0, 1) := by decide +kernel
theorem dX2_ratio_66 : decode cX2_ratio 66 = .ok (.getfield 15, 3) := by decide +kernel
theorem dX2_ratio_69 : decode cX2_ratio 69 = .ok (.iload 7, 2) := by decide +kernel
theorem dX2_ratio_71 : decode cX2_ratio 71 = .ok (.aaload, 1) := by decide +kernel
theorem dX2_ratio_72 : decode cX2_ratio 72 = .ok (.iconst 1, 1) := by decide +kernel
theorem dX2_ratio_73 : decode cX2_ratio 73 = .ok (.iaload, 1) := by decide +kernel
theorem dX2_ratio_74 : decode cX2_ratio 74 = .ok (.i2l, 1) := by decide +kernel
theorem dX2_ratio_75 : decode cX2_ratio 75 = .ok (.lmul, 1) := by decide +kernel
theorem dX2_ratio_76 : decode cX2_ratio 76 = .ok (.lstore 5, 2) := by decide +kernel
theorem dX2_ratio_78 : decode cX2_ratio 78 = .ok (.lload_n 3, 1) := by decide +kernel
theorem dX2_ratio_79 : decode cX2_ratio 79 = .ok (.aload_n 0, 1) := by decide +kernel
theorem dX2_ratio_80 : decode cX2_ratio 80 = .ok (.getfield 15, 3) := by decide +kernel
theorem dX2_ratio_83 : decode cX2_ratio 83 = .ok (.iload 7, 2) := by decide +kernel
theorem dX2_ratio_85 : decode cX2_ratio 85 = .ok (.aaload, 1) := by decide +kernel
theorem dX2_ratio_86 : decode cX2_ratio 86 = .ok (.iconst 2, 1) := by decide +kernel
theorem dX2_ratio_87 : decode cX2_ratio 87 = .ok (.iaload, 1) := by decide +kernel
theorem dX2_ratio_88 : decode cX2_ratio 88 = .ok (.i2l, 1) := by decide +kernel
theorem dX2_ratio_89 : decode cX2_ratio 89 = .ok (.lmul, 1) := by decide +kernel
theorem dX2_ratio_90 : decode cX2_ratio 90 = .ok (.lstore_n 3, 1) := by decide +kernel
theorem dX2_ratio_91 : decode cX2_ratio 91 = .ok (.aload_n 0, 1) := by decide +kernel
theorem dX2_ratio_92 : decode cX2_ratio 92 = .ok (.getfield 15, 3) := by decide +kernel
theorem dX2_ratio_95 : decode cX2_ratio 95 = .ok (.iload 7, 2) := by decide +kernel
theorem dX2_ratio_97 : decode cX2_ratio 97 = .ok (.aaload, 1) := by decide +kernel
theorem dX2_ratio_98 : decode cX2_ratio 98 = .ok (.iconst 0, 1) := by decide +kernel
theorem dX2_ratio_99 : decode cX2_ratio 99 = .ok (.iaload, 1) := by decide +kernel
theorem dX2_ratio_100 : decode cX2_ratio 100 = .ok (.istore 7, 2) := by decide +kernel
theorem dX2_ratio_102 : decode cX2_ratio 102 = .ok (.goto (-44), 3) := by decide +kernel
theorem dX2_ratio_105 : decode cX2_ratio 105 = .ok (.lload_n 3, 1) := by decide +kernel
theorem dX2_ratio_106 : decode cX2_ratio 106 = .ok (.lload 5, 2) := by decide +kernel
theorem dX2_ratio_108 : decode cX2_ratio 108 = .ok (.invokestatic 22, 3) := by decide +kernel
theorem dX2_ratio_111 : decode cX2_ratio 111 = .ok (.lstore 7, 2) := by decide +kernel
theorem dX2_ratio_113 : decode cX2_ratio 113 = .ok (.iconst 2, 1) := by decide +kernel
theorem dX2_ratio_114 : decode cX2_ratio 114 = .ok (.newarray .long, 2) := by decide +kernel
theorem dX2_ratio_116 : decode cX2_ratio 116 = .ok (.dup, 1) := by decide +kernel
theorem dX2_ratio_117 : decode cX2_ratio 117 = .ok (.iconst 0, 1) := by decide +kernel
theorem dX2_ratio_118 : decode cX2_ratio 118 = .ok (.lload_n 3, 1) := by decide +kernel
theorem dX2_ratio_119 : decode cX2_ratio 119 = .ok (.lload 7, 2) := by decide +kernel
theorem dX2_ratio_121 : decode cX2_ratio 121 = .ok (.ldiv, 1) := by decide +kernel
theorem dX2_ratio_122 : decode cX2_ratio 122 = .ok (.lastore, 1) := by decide +kernel
theorem dX2_ratio_123 : decode cX2_ratio 123 = .ok (.dup, 1) := by decide +kernel
theorem dX2_ratio_124 : decode cX2_ratio 124 = .ok (.iconst 1, 1) := by decide +kernel
theorem dX2_ratio_125 : decode cX2_ratio 125 = .ok (.lload 5, 2) := by decide +kernel
theorem dX2_ratio_127 : decode cX2_ratio 127 = .ok (.lload 7, 2) := by decide +kernel
theorem dX2_ratio_129 : decode cX2_ratio 129 = .ok (.ldiv, 1) := by decide +kernel
theorem dX2_ratio_130 : decode cX2_ratio 130 = .ok (.lastore, 1) := by decide +kernel
theorem dX2_ratio_131 : decode cX2_ratio 131 = .ok (.areturn, 1) := by decide +kernel
theorem dX2_isLonger_0 : decode cX2_isLonger 0 = .ok (.aload_n 0, 1) := by decide +kernel
theorem dX2_isLonger_1 : decode cX2_isLonger 1 = .ok (.iload_n 1, 1) := by decide +kernel
theorem dX2_isLonger_2 : decode cX2_isLonger 2 = .ok (.iload_n 2, 1) := by decide +kernel
theorem dX2_isLonger_3 : decode cX2_isLonger 3 = .ok (.invokevirtual 26, 3) := by decide +kernel
theorem dX2_isLonger_6 : decode cX2_isLonger 6 = .ok (.astore_n 3, 1) := by decide +kernel
theorem dX2_isLonger_7 : decode cX2_isLonger 7 = .ok (.aload_n 3, 1) := by decide +kernel
theorem dX2_isLonger_8 : decode cX2_isLonger 8 = .ok (.iconst 0, 1) := by decide +kernel
theorem dX2_isLonger_9 : decode cX2_isLonger 9 = .ok (.laload, 1) := by decide +kernel
theorem dX2_isLonger_10 : decode cX2_isLonger 10 = .ok (.aload_n 3, 1) := by decide +kernel
theorem dX2_isLonger_11 : decode cX2_isLonger 11 = .ok (.iconst 1, 1) := by decide +kernel
theorem dX2_isLonger_12 : decode cX2_isLonger 12 = .ok (.laload, 1) := by decide +kernel
theorem dX2_isLonger_13 : decode cX2_isLonger 13 = .ok (.lcmp, 1) := by decide +kernel
theorem dX2_isLonger_14 : decode cX2_isLonger 14 = .ok (.ifCond .le 7, 3) := by decide +kernel
theorem dX2_isLonger_17 : decode cX2_isLonger 17 = .ok (.iconst 1, 1) := by decide +kernel
theorem dX2_isLonger_18 : decode cX2_isLonger 18 = .ok (.goto 4, 3) := by decide +kernel
theorem dX2_isLonger_21 : decode cX2_isLonger 21 = .ok (.iconst 0, 1) := by decide +kernel
theorem dX2_isLonger_22 : decode cX2_isLonger 22 = .ok (.ireturn, 1) := by decide +kernel
theorem dX2_order_0 : decode cX2_order 0 = .ok (.aload_n 0, 1) := by decide +kernel
theorem dX2_order_1 : decode cX2_order 1 = .ok (.getfield 15, 3) := by decide +kernel
theorem dX2_order_4 : decode cX2_order 4 = .ok (.arraylength, 1) := by decide +kernel
theorem dX2_order_5 : decode cX2_order 5 = .ok (.istore_n 1, 1) := by decide +kernel
theorem dX2_order_6 : decode cX2_order 6 = .ok (.iload_n 1, 1) := by decide +kernel
theorem dX2_order_7 : decode cX2_order 7 = .ok (.newarray .int, 2) := by decide +kernel
theorem dX2_order_9 : decode cX2_order 9 = .ok (.astore_n 2, 1) := by decide +kernel
theorem dX2_order_10 : decode cX2_order 10 = .ok (.iconst 0, 1) := by decide +kernel
theorem dX2_order_11 : decode cX2_order 11 = .ok (.istore_n 3, 1) := by decide +kernel
theorem dX2_order_12 : decode cX2_order 12 = .ok (.iload_n 3, 1) := by decide +kernel
theorem dX2_order_13 : decode cX2_order 13 = .ok (.iload_n 1, 1) := by decide +kernel
theorem dX2_order_14 : decode cX2_order 14 = .ok (.if_icmp .ge 61, 3) := by decide +kernel
theorem dX2_order_17 : decode cX2_order 17 = .ok (.iconst 0, 1) := by decide +kernel
theorem dX2_order_18 : decode cX2_order 18 = .ok (.istore 4, 2) := by decide +kernel
theorem dX2_order_20 : decode cX2_order 20 = .ok (.iconst 0, 1) := by decide +kernel
theorem dX2_order_21 : decode cX2_order 21 = .ok (.istore 5, 2) := by decide +kernel
theorem dX2_order_23 : decode cX2_order 23 = .ok (.iload 5, 2) := by decide +kernel
theorem dX2_order_25 : decode cX2_order 25 = .ok (.iload_n 1, 1) := by decide +kernel
theorem dX2_order_26 : decode cX2_order 26 = .ok (.if_icmp .ge 38, 3) := by decide +kernel
theorem dX2_order_29 : decode cX2_order 29 = .ok (.aload_n 0, 1) := by decide +kernel
theorem dX2_order_30 : decode cX2_order 30 = .ok (.iload 5, 2) := by decide +kernel
theorem dX2_order_32 : decode cX2_order 32 = .ok (.iload_n 3, 1) := by decide +kernel
theorem dX2_order_33 : decode cX2_order 33 = .ok (.invokevirtual 30, 3) := by decide +kernel
theorem dX2_order_36 : decode cX2_order 36 = .ok (.ifCond .ne 19, 3) := by decide +kernel
theorem dX2_order_39 : decode cX2_order 39 = .ok (.iload 5, 2) := by decide +kernel
theorem dX2_order_41 : decode cX2_order 41 = .ok (.iload_n 3, 1) := by decide +kernel
theorem dX2_order_42 : decode cX2_order 42 = .ok (.if_icmp .ge 16, 3) := by decide +kernel
theorem dX2_order_45 : decode cX2_order 45 = .ok (.aload_n 0, 1) := by decide +kernel
theorem dX2_order_46 : decode cX2_order 46 = .ok (.iload_n 3, 1) := by decide +kernel
theorem dX2_order_47 : decode cX2_order 47 = .ok (.iload 5, 2) := by decide +kernel
theorem dX2_order_49 : decode cX2_order 49 = .ok (.invokevirtual 30, 3) := by decide +kernel
theorem dX2_order_52 : decode cX2_order 52 = .ok (.ifCond .ne 6, 3) := by decide +kernel
theorem dX2_order_55 : decode cX2_order 55 = .ok (.iinc 4 1, 3) := by decide +kernel
theorem dX2_order_58 : decode cX2_order 58 = .ok (.iinc 5 1, 3) := by decide +kernel
theorem dX2_order_61 : decode cX2_order 61 = .ok (.goto (-38), 3) := by decide +kernel
theorem dX2_order_64 : decode cX2_order 64 = .ok (.aload_n 2, 1) := by decide +kernel
theorem dX2_order_65 : decode cX2_order 65 = .ok (.iload 4, 2) := by decide +kernel
theorem dX2_order_67 : decode cX2_order 67 = .ok (.iload_n 3, 1) := by decide +kernel
theorem dX2_order_68 : decode cX2_order 68 = .ok (.iastore, 1) := by decide +kernel
theorem dX2_order_69 : decode cX2_order 69 = .ok (.iinc 3 1, 3) := by decide +kernel
theorem dX2_order_72 : decode cX2_order 72 = .ok (.goto (-60), 3) := by decide +kernel
theorem dX2_order_75 : decode cX2_order 75 = .ok (.aload_n 2, 1) := by decide +kernel
theorem dX2_order_76 : decode cX2_order 76 = .ok (.areturn, 1) := by decide +kernel
theorem dX2_isHonest_0 : decode cX2_isHonest 0 = .ok (.aload_n 1, 1) := by decide +kernel
theorem dX2_isHonest_1 : decode cX2_isHonest 1 = .ok (.iconst 1, 1) := by decide +kernel
theorem dX2_isHonest_2 : decode cX2_isHonest 2 = .ok (.iaload, 1) := by decide +kernel
theorem dX2_isHonest_3 : decode cX2_isHonest 3 = .ok (.aload_n 0, 1) := by decide +kernel
theorem dX2_isHonest_4 : decode cX2_isHonest 4 = .ok (.getfield 7, 3) := by decide +kernel
theorem dX2_isHonest_7 : decode cX2_isHonest 7 = .ok (.if_icmp .gt 18, 3) := by decide +kernel
theorem dX2_isHonest_10 : decode cX2_isHonest 10 = .ok (.aload_n 1, 1) := by decide +kernel
theorem dX2_isHonest_11 : decode cX2_isHonest 11 = .ok (.iconst 1, 1) := by decide +kernel
theorem dX2_isHonest_12 : decode cX2_isHonest 12 = .ok (.iaload, 1) := by decide +kernel
theorem dX2_isHonest_13 : decode cX2_isHonest 13 = .ok (.aload_n 0, 1) := by decide +kernel
theorem dX2_isHonest_14 : decode cX2_isHonest 14 = .ok (.getfield 7, 3) := by decide +kernel
theorem dX2_isHonest_17 : decode cX2_isHonest 17 = .ok (.ineg, 1) := by decide +kernel
theorem dX2_isHonest_18 : decode cX2_isHonest 18 = .ok (.if_icmp .lt 7, 3) := by decide +kernel
theorem dX2_isHonest_21 : decode cX2_isHonest 21 = .ok (.iconst 1, 1) := by decide +kernel
theorem dX2_isHonest_22 : decode cX2_isHonest 22 = .ok (.goto 4, 3) := by decide +kernel
theorem dX2_isHonest_25 : decode cX2_isHonest 25 = .ok (.iconst 0, 1) := by decide +kernel
theorem dX2_isHonest_26 : decode cX2_isHonest 26 = .ok (.ireturn, 1) := by decide +kernel
theorem dX2_pass_0 : decode cX2_pass 0 = .ok (.aload_n 0, 1) := by decide +kernel
theorem dX2_pass_1 : decode cX2_pass 1 = .ok (.getfield 19, 3) := by decide +kernel
theorem dX2_pass_4 : decode cX2_pass 4 = .ok (.astore_n 1, 1) := by decide +kernel
theorem dX2_pass_5 : decode cX2_pass 5 = .ok (.aload_n 1, 1) := by decide +kernel
theorem dX2_pass_6 : decode cX2_pass 6 = .ok (.arraylength, 1) := by decide +kernel
theorem dX2_pass_7 : decode cX2_pass 7 = .ok (.istore_n 2, 1) := by decide +kernel
theorem dX2_pass_8 : decode cX2_pass 8 = .ok (.iconst 0, 1) := by decide +kernel
theorem dX2_pass_9 : decode cX2_pass 9 = .ok (.istore_n 3, 1) := by decide +kernel
theorem dX2_pass_10 : decode cX2_pass 10 = .ok (.iload_n 3, 1) := by decide +kernel
theorem dX2_pass_11 : decode cX2_pass 11 = .ok (.iload_n 2, 1) := by decide +kernel
theorem dX2_pass_12 : decode cX2_pass 12 = .ok (.if_icmp .ge 59, 3) := by decide +kernel
theorem dX2_pass_15 : decode cX2_pass 15 = .ok (.aload_n 1, 1) := by decide +kernel
theorem dX2_pass_16 : decode cX2_pass 16 = .ok (.iload_n 3, 1) := by decide +kernel
theorem dX2_pass_17 : decode cX2_pass 17 = .ok (.aaload, 1) := by decide +kernel
theorem dX2_pass_18 : decode cX2_pass 18 = .ok (.astore 4, 2) := by decide +kernel
theorem dX2_pass_20 : decode cX2_pass 20 = .ok (.aload 4, 2) := by decide +kernel
theorem dX2_pass_22 : decode cX2_pass 22 = .ok (.iconst 1, 1) := by decide +kernel
theorem dX2_pass_23 : decode cX2_pass 23 = .ok (.dup2, 1) := by decide +kernel
theorem dX2_pass_24 : decode cX2_pass 24 = .ok (.iaload, 1) := by decide +kernel
theorem dX2_pass_25 : decode cX2_pass 25 = .ok (.aload 4, 2) := by decide +kernel
theorem dX2_pass_27 : decode cX2_pass 27 = .ok (.iconst 0, 1) := by decide +kernel
theorem dX2_pass_28 : decode cX2_pass 28 = .ok (.iaload, 1) := by decide +kernel
theorem dX2_pass_29 : decode cX2_pass 29 = .ok (.iadd, 1) := by decide +kernel
theorem dX2_pass_30 : decode cX2_pass 30 = .ok (.iastore, 1) := by decide +kernel
theorem dX2_pass_31 : decode cX2_pass 31 = .ok (.aload 4, 2) := by decide +kernel
theorem dX2_pass_33 : decode cX2_pass 33 = .ok (.iconst 1, 1) := by decide +kernel
theorem dX2_pass_34 : decode cX2_pass 34 = .ok (.iaload, 1) := by decide +kernel
theorem dX2_pass_35 : decode cX2_pass 35 = .ok (.sipush 300, 3) := by decide +kernel
theorem dX2_pass_38 : decode cX2_pass 38 = .ok (.if_icmp .le 10, 3) := by decide +kernel
theorem dX2_pass_41 : decode cX2_pass 41 = .ok (.aload 4, 2) := by decide +kernel
theorem dX2_pass_43 : decode cX2_pass 43 = .ok (.iconst 1, 1) := by decide +kernel
theorem dX2_pass_44 : decode cX2_pass 44 = .ok (.sipush 300, 3) := by decide +kernel
theorem dX2_pass_47 : decode cX2_pass 47 = .ok (.iastore, 1) := by decide +kernel
theorem dX2_pass_48 : decode cX2_pass 48 = .ok (.aload 4, 2) := by decide +kernel
theorem dX2_pass_50 : decode cX2_pass 50 = .ok (.iconst 1, 1) := by decide +kernel
theorem dX2_pass_51 : decode cX2_pass 51 = .ok (.iaload, 1) := by decide +kernel
theorem dX2_pass_52 : decode cX2_pass 52 = .ok (.sipush (-300), 3) := by decide +kernel
theorem dX2_pass_55 : decode cX2_pass 55 = .ok (.if_icmp .ge 10, 3) := by decide +kernel
theorem dX2_pass_58 : decode cX2_pass 58 = .ok (.aload 4, 2) := by decide +kernel
theorem dX2_pass_60 : decode cX2_pass 60 = .ok (.iconst 1, 1) := by decide +kernel
theorem dX2_pass_61 : decode cX2_pass 61 = .ok (.sipush (-300), 3) := by decide +kernel
theorem dX2_pass_64 : decode cX2_pass 64 = .ok (.iastore, 1) := by decide +kernel
theorem dX2_pass_65 : decode cX2_pass 65 = .ok (.iinc 3 1, 3) := by decide +kernel
theorem dX2_pass_68 : decode cX2_pass 68 = .ok (.goto (-58), 3) := by decide +kernel
theorem dX2_pass_71 : decode cX2_pass 71 = .ok (.iconst (-1), 1) := by decide +kernel
theorem dX2_pass_72 : decode cX2_pass 72 = .ok (.istore_n 1, 1) := by decide +kernel
theorem dX2_pass_73 : decode cX2_pass 73 = .ok (.aload_n 0, 1) := by decide +kernel
theorem dX2_pass_74 : decode cX2_pass 74 = .ok (.getfield 19, 3) := by decide +kernel
theorem dX2_pass_77 : decode cX2_pass 77 = .ok (.arraylength, 1) := by decide +kernel
theorem dX2_pass_78 : decode cX2_pass 78 = .ok (.ifCond .le 57, 3) := by decide +kernel
theorem dX2_pass_81 : decode cX2_pass 81 = .ok (.aload_n 0, 1) := by decide +kernel
theorem dX2_pass_82 : decode cX2_pass 82 = .ok (.getfield 19, 3) := by decide +kernel
theorem dX2_pass_85 : decode cX2_pass 85 = .ok (.aload_n 0, 1) := by decide +kernel
theorem dX2_pass_86 : decode cX2_pass 86 = .ok (.getfield 38, 3) := by decide +kernel
theorem dX2_pass_89 : decode cX2_pass 89 = .ok (.aload_n 0, 1) := by decide +kernel
theorem dX2_pass_90 : decode cX2_pass 90 = .ok (.getfield 19, 3) := by decide +kernel
theorem dX2_pass_93 : decode cX2_pass 93 = .ok (.arraylength, 1) := by decide +kernel
theorem dX2_pass_94 : decode cX2_pass 94 = .ok (.irem, 1) := by decide +kernel
theorem dX2_pass_95 : decode cX2_pass 95 = .ok (.aaload, 1) := by decide +kernel
theorem dX2_pass_96 : decode cX2_pass 96 = .ok (.astore_n 2, 1) := by decide +kernel
theorem dX2_pass_97 : decode cX2_pass 97 = .ok (.aload_n 0, 1) := by decide +kernel
theorem dX2_pass_98 : decode cX2_pass 98 = .ok (.aload_n 2, 1) := by decide +kernel
theorem dX2_pass_99 : decode cX2_pass 99 = .ok (.invokevirtual 41, 3) := by decide +kernel
theorem dX2_pass_102 : decode cX2_pass 102 = .ok (.ifCond .ne 33, 3) := by decide +kernel
theorem dX2_pass_105 : decode cX2_pass 105 = .ok (.aload_n 0, 1) := by decide +kernel
theorem dX2_pass_106 : decode cX2_pass 106 = .ok (.getfield 38, 3) := by decide +kernel
theorem dX2_pass_109 : decode cX2_pass 109 = .ok (.aload_n 0, 1) := by decide +kernel
theorem dX2_pass_110 : decode cX2_pass 110 = .ok (.getfield 19, 3) := by decide +kernel
theorem dX2_pass_113 : decode cX2_pass 113 = .ok (.arraylength, 1) := by decide +kernel
theorem dX2_pass_114 : decode cX2_pass 114 = .ok (.irem, 1) := by decide +kernel
theorem dX2_pass_115 : decode cX2_pass 115 = .ok (.istore_n 1, 1) := by decide +kernel
theorem dX2_pass_116 : decode cX2_pass 116 = .ok (.aload_n 0, 1) := by decide +kernel
theorem dX2_pass_117 : decode cX2_pass 117 = .ok (.dup, 1) := by decide +kernel
theorem dX2_pass_118 : decode cX2_pass 118 = .ok (.getfield 45, 3) := by decide +kernel
theorem dX2_pass_121 : decode cX2_pass 121 = .ok (.aload_n 2, 1) := by decide +kernel
theorem dX2_pass_122 : decode cX2_pass 122 = .ok (.iconst 1, 1) := by decide +kernel
theorem dX2_pass_123 : decode cX2_pass 123 = .ok (.iaload, 1) := by decide +kernel
theorem dX2_pass_124 : decode cX2_pass 124 = .ok (.invokestatic 48, 3) := by decide +kernel
theorem dX2_pass_127 : decode cX2_pass 127 = .ok (.iadd, 1) := by decide +kernel
theorem dX2_pass_128 : decode cX2_pass 128 = .ok (.putfield 45, 3) := by decide +kernel
theorem dX2_pass_131 : decode cX2_pass 131 = .ok (.aload_n 2, 1) := by decide +kernel
theorem dX2_pass_132 : decode cX2_pass 132 = .ok (.iconst 1, 1) := by decide +kernel
theorem dX2_pass_133 : decode cX2_pass 133 = .ok (.iconst 0, 1) := by decide +kernel
theorem dX2_pass_134 : decode cX2_pass 134 = .ok (.iastore, 1) := by decide +kernel
theorem dX2_pass_135 : decode cX2_pass 135 = .ok (.aload_n 0, 1) := by decide +kernel
theorem dX2_pass_136 : decode cX2_pass 136 = .ok (.dup, 1) := by decide +kernel
theorem dX2_pass_137 : decode cX2_pass 137 = .ok (.getfield 38, 3) := by decide +kernel
theorem dX2_pass_140 : decode cX2_pass 140 = .ok (.iconst 1, 1) := by decide +kernel
theorem dX2_pass_141 : decode cX2_pass 141 = .ok (.iadd, 1) := by decide +kernel
theorem dX2_pass_142 : decode cX2_pass 142 = .ok (.putfield 38, 3) := by decide +kernel
theorem dX2_pass_145 : decode cX2_pass 145 = .ok (.iload_n 1, 1) := by decide +kernel
theorem dX2_pass_146 : decode cX2_pass 146 = .ok (.ireturn, 1) := by decide +kernel
theorem dX2_behind_0 : decode cX2_behind 0 = .ok (.aload_n 0, 1) := by decide +kernel
theorem dX2_behind_1 : decode cX2_behind 1 = .ok (.getfield 45, 3) := by decide +kernel
theorem dX2_behind_4 : decode cX2_behind 4 = .ok (.istore_n 2, 1) := by decide +kernel
theorem dX2_behind_5 : decode cX2_behind 5 = .ok (.iconst 0, 1) := by decide +kernel
theorem dX2_behind_6 : decode cX2_behind 6 = .ok (.istore_n 3, 1) := by decide +kernel
theorem dX2_behind_7 : decode cX2_behind 7 = .ok (.iload_n 3, 1) := by decide +kernel
theorem dX2_behind_8 : decode cX2_behind 8 = .ok (.iload_n 1, 1) := by decide +kernel
theorem dX2_behind_9 : decode cX2_behind 9 = .ok (.if_icmp .ge 14, 3) := by decide +kernel
theorem dX2_behind_12 : decode cX2_behind 12 = .ok (.aload_n 0, 1) := by decide +kernel
theorem dX2_behind_13 : decode cX2_behind 13 = .ok (.invokevirtual 54, 3) := by decide +kernel
theorem dX2_behind_16 : decode cX2_behind 16 = .ok (.pop, 1) := by decide +kernel
theorem dX2_behind_17 : decode cX2_behind 17 = .ok (.iinc 3 1, 3) := by decide +kernel
theorem dX2_behind_20 : decode cX2_behind 20 = .ok (.goto (-13), 3) := by decide +kernel
theorem dX2_behind_23 : decode cX2_behind 23 = .ok (.aload_n 0, 1) := by decide +kernel
theorem dX2_behind_24 : decode cX2_behind 24 = .ok (.getfield 45, 3) := by decide +kernel
theorem dX2_behind_27 : decode cX2_behind 27 = .ok (.iload_n 2, 1) := by decide +kernel
theorem dX2_behind_28 : decode cX2_behind 28 = .ok (.isub, 1) := by decide +kernel
theorem dX2_behind_29 : decode cX2_behind 29 = .ok (.ireturn, 1) := by decide +kernel
theorem dX2_isSame_0 : decode cX2_isSame 0 = .ok (.aload_n 0, 1) := by decide +kernel
theorem dX2_isSame_1 : decode cX2_isSame 1 = .ok (.getfield 15, 3) := by decide +kernel
theorem dX2_isSame_4 : decode cX2_isSame 4 = .ok (.arraylength, 1) := by decide +kernel
theorem dX2_isSame_5 : decode cX2_isSame 5 = .ok (.istore_n 2, 1) := by decide +kernel
theorem dX2_isSame_6 : decode cX2_isSame 6 = .ok (.aload_n 1, 1) := by decide +kernel
theorem dX2_isSame_7 : decode cX2_isSame 7 = .ok (.invokevirtual 66, 3) := by decide +kernel
theorem dX2_isSame_10 : decode cX2_isSame 10 = .ok (.iload_n 2, 1) := by decide +kernel
theorem dX2_isSame_11 : decode cX2_isSame 11 = .ok (.if_icmp .ne 59, 3) := by decide +kernel
theorem dX2_isSame_14 : decode cX2_isSame 14 = .ok (.aload_n 1, 1) := by decide +kernel
theorem dX2_isSame_15 : decode cX2_isSame 15 = .ok (.invokevirtual 70, 3) := by decide +kernel
theorem dX2_isSame_18 : decode cX2_isSame 18 = .ok (.aload_n 0, 1) := by decide +kernel
theorem dX2_isSame_19 : decode cX2_isSame 19 = .ok (.getfield 19, 3) := by decide +kernel
theorem dX2_isSame_22 : decode cX2_isSame 22 = .ok (.arraylength, 1) := by decide +kernel
theorem dX2_isSame_23 : decode cX2_isSame 23 = .ok (.if_icmp .ne 47, 3) := by decide +kernel
theorem dX2_isSame_26 : decode cX2_isSame 26 = .ok (.aload_n 1, 1) := by decide +kernel
theorem dX2_isSame_27 : decode cX2_isSame 27 = .ok (.invokevirtual 72, 3) := by decide +kernel
theorem dX2_isSame_30 : decode cX2_isSame 30 = .ok (.aload_n 0, 1) := by decide +kernel
theorem dX2_isSame_31 : decode cX2_isSame 31 = .ok (.getfield 38, 3) := by decide +kernel
theorem dX2_isSame_34 : decode cX2_isSame 34 = .ok (.if_icmp .ne 36, 3) := by decide +kernel
theorem dX2_isSame_37 : decode cX2_isSame 37 = .ok (.aload_n 1, 1) := by decide +kernel
theorem dX2_isSame_38 : decode cX2_isSame 38 = .ok (.invokevirtual 75, 3) := by decide +kernel
theorem dX2_isSame_41 : decode cX2_isSame 41 = .ok (.aload_n 0, 1) := by decide +kernel
theorem dX2_isSame_42 : decode cX2_isSame 42 = .ok (.getfield 59, 3) := by decide +kernel
theorem dX2_isSame_45 : decode cX2_isSame 45 = .ok (.if_icmp .ne 25, 3) := by decide +kernel
theorem dX2_isSame_48 : decode cX2_isSame 48 = .ok (.aload_n 1, 1) := by decide +kernel
theorem dX2_isSame_49 : decode cX2_isSame 49 = .ok (.invokevirtual 77, 3) := by decide +kernel
theorem dX2_isSame_52 : decode cX2_isSame 52 = .ok (.aload_n 0, 1) := by decide +kernel
theorem dX2_isSame_53 : decode cX2_isSame 53 = .ok (.getfield 7, 3) := by decide +kernel
theorem dX2_isSame_56 : decode cX2_isSame 56 = .ok (.if_icmp .ne 14, 3) := by decide +kernel
theorem dX2_isSame_59 : decode cX2_isSame 59 = .ok (.aload_n 1, 1) := by decide +kernel
theorem dX2_isSame_60 : decode cX2_isSame 60 = .ok (.invokevirtual 79, 3) := by decide +kernel
theorem dX2_isSame_63 : decode cX2_isSame 63 = .ok (.aload_n 0, 1) := by decide +kernel
theorem dX2_isSame_64 : decode cX2_isSame 64 = .ok (.getfield 45, 3) := by decide +kernel
theorem dX2_isSame_67 : decode cX2_isSame 67 = .ok (.if_icmp .eq 5, 3) := by decide +kernel
theorem dX2_isSame_70 : decode cX2_isSame 70 = .ok (.iconst 0, 1) := by decide +kernel
theorem dX2_isSame_71 : decode cX2_isSame 71 = .ok (.ireturn, 1) := by decide +kernel
theorem dX2_isSame_72 : decode cX2_isSame 72 = .ok (.aload_n 0, 1) := by decide +kernel
theorem dX2_isSame_73 : decode cX2_isSame 73 = .ok (.invokevirtual 34, 3) := by decide +kernel
theorem dX2_isSame_76 : decode cX2_isSame 76 = .ok (.astore_n 3, 1) := by decide +kernel
theorem dX2_isSame_77 : decode cX2_isSame 77 = .ok (.iconst 0, 1) := by decide +kernel
theorem dX2_isSame_78 : decode cX2_isSame 78 = .ok (.istore 4, 2) := by decide +kernel
theorem dX2_isSame_80 : decode cX2_isSame 80 = .ok (.iconst 0, 1) := by decide +kernel
theorem dX2_isSame_81 : decode cX2_isSame 81 = .ok (.istore 5, 2) := by decide +kernel
theorem dX2_isSame_83 : decode cX2_isSame 83 = .ok (.iload 5, 2) := by decide +kernel
theorem dX2_isSame_85 : decode cX2_isSame 85 = .ok (.iload_n 2, 1) := by decide +kernel
theorem dX2_isSame_86 : decode cX2_isSame 86 = .ok (.if_icmp .ge 124, 3) := by decide +kernel
theorem dX2_isSame_89 : decode cX2_isSame 89 = .ok (.aload_n 0, 1) := by decide +kernel
theorem dX2_isSame_90 : decode cX2_isSame 90 = .ok (.iload 5, 2) := by decide +kernel
theorem dX2_isSame_92 : decode cX2_isSame 92 = .ok (.aload_n 0, 1) := by decide +kernel
theorem dX2_isSame_93 : decode cX2_isSame 93 = .ok (.getfield 59, 3) := by decide +kernel
theorem dX2_isSame_96 : decode cX2_isSame 96 = .ok (.invokevirtual 26, 3) := by decide +kernel
theorem dX2_isSame_99 : decode cX2_isSame 99 = .ok (.astore 6, 2) := by decide +kernel
theorem dX2_isSame_101 : decode cX2_isSame 101 = .ok (.iconst 0, 1) := by decide +kernel
theorem dX2_isSame_102 : decode cX2_isSame 102 = .ok (.istore 7, 2) := by decide +kernel
theorem dX2_isSame_104 : decode cX2_isSame 104 = .ok (.iload 5, 2) := by decide +kernel
theorem dX2_isSame_106 : decode cX2_isSame 106 = .ok (.istore 8, 2) := by decide +kernel
theorem dX2_isSame_108 : decode cX2_isSame 108 = .ok (.iload 8, 2) := by decide +kernel
theorem dX2_isSame_110 : decode cX2_isSame 110 = .ok (.ifCond .le 20, 3) := by decide +kernel
theorem dX2_isSame_113 : decode cX2_isSame 113 = .ok (.iinc 7 1, 3) := by decide +kernel
theorem dX2_isSame_116 : decode cX2_isSame 116 = .ok (.aload_n 0, 1) := by decide +kernel
theorem dX2_isSame_117 : decode cX2_isSame 117 = .ok (.getfield 15, 3) := by decide +kernel
theorem dX2_isSame_120 : decode cX2_isSame 120 = .ok (.iload 8, 2) := by decide +kernel
theorem dX2_isSame_122 : decode cX2_isSame 122 = .ok (.aaload, 1) := by decide +kernel
theorem dX2_isSame_123 : decode cX2_isSame 123 = .ok (.iconst 0, 1) := by decide +kernel
theorem dX2_isSame_124 : decode cX2_isSame 124 = .ok (.iaload, 1) := by decide +kernel
theorem dX2_isSame_125 : decode cX2_isSame 125 = .ok (.istore 8, 2) := by decide +kernel
theorem dX2_isSame_127 : decode cX2_isSame 127 = .ok (.goto (-19), 3) := by decide +kernel
theorem dX2_isSame_130 : decode cX2_isSame 130 = .ok (.aload_n 0, 1) := by decide +kernel
theorem dX2_isSame_131 : decode cX2_isSame 131 = .ok (.iload 4, 2) := by decide +kernel
theorem dX2_isSame_133 : decode cX2_isSame 133 = .ok (.iload 5, 2) := by decide +kernel
theorem dX2_isSame_135 : decode cX2_isSame 135 = .ok (.invokevirtual 30, 3) := by decide +kernel
theorem dX2_isSame_138 : decode cX2_isSame 138 = .ok (.ifCond .eq 7, 3) := by decide +kernel
theorem dX2_isSame_141 : decode cX2_isSame 141 = .ok (.iload 5, 2) := by decide +kernel
theorem dX2_isSame_143 : decode cX2_isSame 143 = .ok (.istore 4, 2) := by decide +kernel
theorem dX2_isSame_145 : decode cX2_isSame 145 = .ok (.aload_n 1, 1) := by decide +kernel
theorem dX2_isSame_146 : decode cX2_isSame 146 = .ok (.iload 5, 2) := by decide +kernel
theorem dX2_isSame_148 : decode cX2_isSame 148 = .ok (.invokevirtual 81, 3) := by decide +kernel
theorem dX2_isSame_151 : decode cX2_isSame 151 = .ok (.aload_n 0, 1) := by decide +kernel
theorem dX2_isSame_152 : decode cX2_isSame 152 = .ok (.getfield 15, 3) := by decide +kernel
theorem dX2_isSame_155 : decode cX2_isSame 155 = .ok (.iload 5, 2) := by decide +kernel
theorem dX2_isSame_157 : decode cX2_isSame 157 = .ok (.aaload, 1) := by decide +kernel
theorem dX2_isSame_158 : decode cX2_isSame 158 = .ok (.iconst 0, 1) := by decide +kernel
theorem dX2_isSame_159 : decode cX2_isSame 159 = .ok (.iaload, 1) := by decide +kernel
theorem dX2_isSame_160 : decode cX2_isSame 160 = .ok (.if_icmp .ne 42, 3) := by decide +kernel
theorem dX2_isSame_163 : decode cX2_isSame 163 = .ok (.aload_n 1, 1) := by decide +kernel
theorem dX2_isSame_164 : decode cX2_isSame 164 = .ok (.iload 5, 2) := by decide +kernel
theorem dX2_isSame_166 : decode cX2_isSame 166 = .ok (.invokevirtual 84, 3) := by decide +kernel
theorem dX2_isSame_169 : decode cX2_isSame 169 = .ok (.iload 7, 2) := by decide +kernel
theorem dX2_isSame_171 : decode cX2_isSame 171 = .ok (.if_icmp .ne 31, 3) := by decide +kernel
theorem dX2_isSame_174 : decode cX2_isSame 174 = .ok (.aload_n 1, 1) := by decide +kernel
theorem dX2_isSame_175 : decode cX2_isSame 175 = .ok (.iload 5, 2) := by decide +kernel
theorem dX2_isSame_177 : decode cX2_isSame 177 = .ok (.invokevirtual 87, 3) := by decide +kernel
theorem dX2_isSame_180 : decode cX2_isSame 180 = .ok (.aload 6, 2) := by decide +kernel
theorem dX2_isSame_182 : decode cX2_isSame 182 = .ok (.iconst 0, 1) := by decide +kernel
theorem dX2_isSame_183 : decode cX2_isSame 183 = .ok (.laload, 1) := by decide +kernel
theorem dX2_isSame_184 : decode cX2_isSame 184 = .ok (.lcmp, 1) := by decide +kernel
theorem dX2_isSame_185 : decode cX2_isSame 185 = .ok (.ifCond .ne 17, 3) := by decide +kernel
theorem dX2_isSame_188 : decode cX2_isSame 188 = .ok (.aload_n 1, 1) := by decide +kernel
theorem dX2_isSame_189 : decode cX2_isSame 189 = .ok (.iload 5, 2) := by decide +kernel
theorem dX2_isSame_191 : decode cX2_isSame 191 = .ok (.invokevirtual 91, 3) := by decide +kernel
theorem dX2_isSame_194 : decode cX2_isSame 194 = .ok (.aload 6, 2) := by decide +kernel
theorem dX2_isSame_196 : decode cX2_isSame 196 = .ok (.iconst 1, 1) := by decide +kernel
theorem dX2_isSame_197 : decode cX2_isSame 197 = .ok (.laload, 1) := by decide +kernel
theorem dX2_isSame_198 : decode cX2_isSame 198 = .ok (.lcmp, 1) := by decide +kernel
theorem dX2_isSame_199 : decode cX2_isSame 199 = .ok (.ifCond .eq 5, 3) := by decide +kernel
theorem dX2_isSame_202 : decode cX2_isSame 202 = .ok (.iconst 0, 1) := by decide +kernel
theorem dX2_isSame_203 : decode cX2_isSame 203 = .ok (.ireturn, 1) := by decide +kernel
theorem dX2_isSame_204 : decode cX2_isSame 204 = .ok (.iinc 5 1, 3) := by decide +kernel
theorem dX2_isSame_207 : decode cX2_isSame 207 = .ok (.goto (-124), 3) := by decide +kernel
theorem dX2_isSame_210 : decode cX2_isSame 210 = .ok (.iconst (-1), 1) := by decide +kernel
theorem dX2_isSame_211 : decode cX2_isSame 211 = .ok (.istore 5, 2) := by decide +kernel
theorem dX2_isSame_213 : decode cX2_isSame 213 = .ok (.iconst (-1), 1) := by decide +kernel
theorem dX2_isSame_214 : decode cX2_isSame 214 = .ok (.istore 6, 2) := by decide +kernel
theorem dX2_isSame_216 : decode cX2_isSame 216 = .ok (.iconst 0, 1) := by decide +kernel
theorem dX2_isSame_217 : decode cX2_isSame 217 = .ok (.istore 7, 2) := by decide +kernel
theorem dX2_isSame_219 : decode cX2_isSame 219 = .ok (.iconst 0, 1) := by decide +kernel
theorem dX2_isSame_220 : decode cX2_isSame 220 = .ok (.istore 8, 2) := by decide +kernel
theorem dX2_isSame_222 : decode cX2_isSame 222 = .ok (.iload 8, 2) := by decide +kernel
theorem dX2_isSame_224 : decode cX2_isSame 224 = .ok (.aload_n 0, 1) := by decide +kernel
theorem dX2_isSame_225 : decode cX2_isSame 225 = .ok (.getfield 19, 3) := by decide +kernel
theorem dX2_isSame_228 : decode cX2_isSame 228 = .ok (.arraylength, 1) := by decide +kernel
theorem dX2_isSame_229 : decode cX2_isSame 229 = .ok (.if_icmp .ge 126, 3) := by decide +kernel
theorem dX2_isSame_232 : decode cX2_isSame 232 = .ok (.aload_n 0, 1) := by decide +kernel
theorem dX2_isSame_233 : decode cX2_isSame 233 = .ok (.getfield 19, 3) := by decide +kernel
theorem dX2_isSame_236 : decode cX2_isSame 236 = .ok (.iload 8, 2) := by decide +kernel
theorem dX2_isSame_238 : decode cX2_isSame 238 = .ok (.aaload, 1) := by decide +kernel
theorem dX2_isSame_239 : decode cX2_isSame 239 = .ok (.astore 9, 2) := by decide +kernel
theorem dX2_isSame_241 : decode cX2_isSame 241 = .ok (.iload 7, 2) := by decide +kernel
theorem dX2_isSame_243 : decode cX2_isSame 243 = .ok (.aload 9, 2) := by decide +kernel
theorem dX2_isSame_245 : decode cX2_isSame 245 = .ok (.iconst 1, 1) := by decide +kernel
theorem dX2_isSame_246 : decode cX2_isSame 246 = .ok (.iaload, 1) := by decide +kernel
theorem dX2_isSame_247 : decode cX2_isSame 247 = .ok (.iadd, 1) := by decide +kernel
theorem dX2_isSame_248 : decode cX2_isSame 248 = .ok (.istore 7, 2) := by decide +kernel
theorem dX2_isSame_250 : decode cX2_isSame 250 = .ok (.iload 5, 2) := by decide +kernel
theorem dX2_isSame_252 : decode cX2_isSame 252 = .ok (.ifCond .lt 25, 3) := by decide +kernel
theorem dX2_isSame_255 : decode cX2_isSame 255 = .ok (.aload 9, 2) := by decide +kernel
theorem dX2_isSame_257 : decode cX2_isSame 257 = .ok (.iconst 1, 1) := by decide +kernel
theorem dX2_isSame_258 : decode cX2_isSame 258 = .ok (.iaload, 1) := by decide +kernel
theorem dX2_isSame_259 : decode cX2_isSame 259 = .ok (.invokestatic 48, 3) := by decide +kernel
theorem dX2_isSame_262 : decode cX2_isSame 262 = .ok (.aload_n 0, 1) := by decide +kernel
theorem dX2_isSame_263 : decode cX2_isSame 263 = .ok (.getfield 19, 3) := by decide +kernel
theorem dX2_isSame_266 : decode cX2_isSame 266 = .ok (.iload 5, 2) := by decide +kernel
theorem dX2_isSame_268 : decode cX2_isSame 268 = .ok (.aaload, 1) := by decide +kernel
theorem dX2_isSame_269 : decode cX2_isSame 269 = .ok (.iconst 1, 1) := by decide +kernel
theorem dX2_isSame_270 : decode cX2_isSame 270 = .ok (.iaload, 1) := by decide +kernel
theorem dX2_isSame_271 : decode cX2_isSame 271 = .ok (.invokestatic 48, 3) := by decide +kernel
theorem dX2_isSame_274 : decode cX2_isSame 274 = .ok (.if_icmp .ge 7, 3) := by decide +kernel
theorem dX2_isSame_277 : decode cX2_isSame 277 = .ok (.iload 8, 2) := by decide +kernel
theorem dX2_isSame_279 : decode cX2_isSame 279 = .ok (.istore 5, 2) := by decide +kernel
theorem dX2_isSame_281 : decode cX2_isSame 281 = .ok (.iload 6, 2) := by decide +kernel
theorem dX2_isSame_283 : decode cX2_isSame 283 = .ok (.ifCond .lt 19, 3) := by decide +kernel
theorem dX2_isSame_286 : decode cX2_isSame 286 = .ok (.aload 9, 2) := by decide +kernel
theorem dX2_isSame_288 : decode cX2_isSame 288 = .ok (.iconst 1, 1) := by decide +kernel
theorem dX2_isSame_289 : decode cX2_isSame 289 = .ok (.iaload, 1) := by decide +kernel
theorem dX2_isSame_290 : decode cX2_isSame 290 = .ok (.aload_n 0, 1) := by decide +kernel
theorem dX2_isSame_291 : decode cX2_isSame 291 = .ok (.getfield 19, 3) := by decide +kernel
theorem dX2_isSame_294 : decode cX2_isSame 294 = .ok (.iload 6, 2) := by decide +kernel
theorem dX2_isSame_296 : decode cX2_isSame 296 = .ok (.aaload, 1) := by decide +kernel
theorem dX2_isSame_297 : decode cX2_isSame 297 = .ok (.iconst 1, 1) := by decide +kernel
theorem dX2_isSame_298 : decode cX2_isSame 298 = .ok (.iaload, 1) := by decide +kernel
theorem dX2_isSame_299 : decode cX2_isSame 299 = .ok (.if_icmp .le 7, 3) := by decide +kernel
theorem dX2_isSame_302 : decode cX2_isSame 302 = .ok (.iload 8, 2) := by decide +kernel
theorem dX2_isSame_304 : decode cX2_isSame 304 = .ok (.istore 6, 2) := by decide +kernel
theorem dX2_isSame_306 : decode cX2_isSame 306 = .ok (.aload_n 1, 1) := by decide +kernel
theorem dX2_isSame_307 : decode cX2_isSame 307 = .ok (.iload 8, 2) := by decide +kernel
theorem dX2_isSame_309 : decode cX2_isSame 309 = .ok (.invokevirtual 94, 3) := by decide +kernel
theorem dX2_isSame_312 : decode cX2_isSame 312 = .ok (.aload 9, 2) := by decide +kernel
theorem dX2_isSame_314 : decode cX2_isSame 314 = .ok (.iconst 1, 1) := by decide +kernel
theorem dX2_isSame_315 : decode cX2_isSame 315 = .ok (.iaload, 1) := by decide +kernel
theorem dX2_isSame_316 : decode cX2_isSame 316 = .ok (.if_icmp .ne 31, 3) := by decide +kernel
theorem dX2_isSame_319 : decode cX2_isSame 319 = .ok (.aload_n 1, 1) := by decide +kernel
theorem dX2_isSame_320 : decode cX2_isSame 320 = .ok (.iload 8, 2) := by decide +kernel
theorem dX2_isSame_322 : decode cX2_isSame 322 = .ok (.invokevirtual 97, 3) := by decide +kernel
theorem dX2_isSame_325 : decode cX2_isSame 325 = .ok (.aload 9, 2) := by decide +kernel
theorem dX2_isSame_327 : decode cX2_isSame 327 = .ok (.iconst 0, 1) := by decide +kernel
theorem dX2_isSame_328 : decode cX2_isSame 328 = .ok (.iaload, 1) := by decide +kernel
theorem dX2_isSame_329 : decode cX2_isSame 329 = .ok (.if_icmp .ne 18, 3) := by decide +kernel
theorem dX2_isSame_332 : decode cX2_isSame 332 = .ok (.aload_n 1, 1) := by decide +kernel
theorem dX2_isSame_333 : decode cX2_isSame 333 = .ok (.iload 8, 2) := by decide +kernel
theorem dX2_isSame_335 : decode cX2_isSame 335 = .ok (.invokevirtual 100, 3) := by decide +kernel
theorem dX2_isSame_338 : decode cX2_isSame 338 = .ok (.aload_n 0, 1) := by decide +kernel
theorem dX2_isSame_339 : decode cX2_isSame 339 = .ok (.aload 9, 2) := by decide +kernel
theorem dX2_isSame_341 : decode cX2_isSame 341 = .ok (.invokevirtual 41, 3) := by decide +kernel
theorem dX2_isSame_344 : decode cX2_isSame 344 = .ok (.if_icmp .eq 5, 3) := by decide +kernel
theorem dX2_isSame_347 : decode cX2_isSame 347 = .ok (.iconst 0, 1) := by decide +kernel
theorem dX2_isSame_348 : decode cX2_isSame 348 = .ok (.ireturn, 1) := by decide +kernel
theorem dX2_isSame_349 : decode cX2_isSame 349 = .ok (.iinc 8 1, 3) := by decide +kernel
theorem dX2_isSame_352 : decode cX2_isSame 352 = .ok (.goto (-130), 3) := by decide +kernel
theorem dX2_isSame_355 : decode cX2_isSame 355 = .ok (.aload_n 1, 1) := by decide +kernel
theorem dX2_isSame_356 : decode cX2_isSame 356 = .ok (.invokevirtual 103, 3) := by decide +kernel
theorem dX2_isSame_359 : decode cX2_isSame 359 = .ok (.aload_n 3, 1) := by decide +kernel
theorem dX2_isSame_360 : decode cX2_isSame 360 = .ok (.iconst 0, 1) := by decide +kernel
theorem dX2_isSame_361 : decode cX2_isSame 361 = .ok (.iaload, 1) := by decide +kernel
theorem dX2_isSame_362 : decode cX2_isSame 362 = .ok (.if_icmp .ne 64, 3) := by decide +kernel
theorem dX2_isSame_365 : decode cX2_isSame 365 = .ok (.aload_n 1, 1) := by decide +kernel
theorem dX2_isSame_366 : decode cX2_isSame 366 = .ok (.invokevirtual 106, 3) := by decide +kernel
theorem dX2_isSame_369 : decode cX2_isSame 369 = .ok (.iload 4, 2) := by decide +kernel
theorem dX2_isSame_371 : decode cX2_isSame 371 = .ok (.if_icmp .ne 55, 3) := by decide +kernel
theorem dX2_isSame_374 : decode cX2_isSame 374 = .ok (.aload_n 1, 1) := by decide +kernel
theorem dX2_isSame_375 : decode cX2_isSame 375 = .ok (.invokevirtual 109, 3) := by decide +kernel
theorem dX2_isSame_378 : decode cX2_isSame 378 = .ok (.iload 5, 2) := by decide +kernel
theorem dX2_isSame_380 : decode cX2_isSame 380 = .ok (.if_icmp .ne 46, 3) := by decide +kernel
theorem dX2_isSame_383 : decode cX2_isSame 383 = .ok (.aload_n 1, 1) := by decide +kernel
theorem dX2_isSame_384 : decode cX2_isSame 384 = .ok (.invokevirtual 112, 3) := by decide +kernel
theorem dX2_isSame_387 : decode cX2_isSame 387 = .ok (.iload 6, 2) := by decide +kernel
theorem dX2_isSame_389 : decode cX2_isSame 389 = .ok (.if_icmp .ne 37, 3) := by decide +kernel
theorem dX2_isSame_392 : decode cX2_isSame 392 = .ok (.aload_n 1, 1) := by decide +kernel
theorem dX2_isSame_393 : decode cX2_isSame 393 = .ok (.invokevirtual 115, 3) := by decide +kernel
theorem dX2_isSame_396 : decode cX2_isSame 396 = .ok (.aload_n 0, 1) := by decide +kernel
theorem dX2_isSame_397 : decode cX2_isSame 397 = .ok (.getfield 19, 3) := by decide +kernel
theorem dX2_isSame_400 : decode cX2_isSame 400 = .ok (.arraylength, 1) := by decide +kernel
theorem dX2_isSame_401 : decode cX2_isSame 401 = .ok (.ifCond .ne 7, 3) := by decide +kernel
theorem dX2_isSame_404 : decode cX2_isSame 404 = .ok (.dconst 0, 1) := by decide +kernel
theorem dX2_isSame_405 : decode cX2_isSame 405 = .ok (.goto 13, 3) := by decide +kernel
theorem dX2_isSame_408 : decode cX2_isSame 408 = .ok (.iload 7, 2) := by decide +kernel
theorem dX2_isSame_410 : decode cX2_isSame 410 = .ok (.i2d, 1) := by decide +kernel
theorem dX2_isSame_411 : decode cX2_isSame 411 = .ok (.aload_n 0, 1) := by decide +kernel
theorem dX2_isSame_412 : decode cX2_isSame 412 = .ok (.getfield 19, 3) := by decide +kernel
theorem dX2_isSame_415 : decode cX2_isSame 415 = .ok (.arraylength, 1) := by decide +kernel
theorem dX2_isSame_416 : decode cX2_isSame 416 = .ok (.i2d, 1) := by decide +kernel
theorem dX2_isSame_417 : decode cX2_isSame 417 = .ok (.ddiv, 1) := by decide +kernel
theorem dX2_isSame_418 : decode cX2_isSame 418 = .ok (.dcmp .l, 1) := by decide +kernel
theorem dX2_isSame_419 : decode cX2_isSame 419 = .ok (.ifCond .ne 7, 3) := by decide +kernel
theorem dX2_isSame_422 : decode cX2_isSame 422 = .ok (.iconst 1, 1) := by decide +kernel
theorem dX2_isSame_423 : decode cX2_isSame 423 = .ok (.goto 4, 3) := by decide +kernel
theorem dX2_isSame_426 : decode cX2_isSame 426 = .ok (.iconst 0, 1) := by decide +kernel
theorem dX2_isSame_427 : decode cX2_isSame 427 = .ok (.ireturn, 1) := by decide +kernel
set_option maxRecDepth 20000 in
theorem ggX2_divisor_X2_divisor : GoodIn wsX2_divisor wsX2_divisor := goodIn_r _ [0, 1, 2, 3] (by decide +kernel) (by decide +kernel)
set_option maxRecDepth 20000 in
theorem gX2_divisor_X2_divisor : GoodIn wsX2_divisor (va_wsS RX2 22 yX2_divisor wsX2_divisor) := goodIn_app (goodIn_of _ (by decide +kernel)) ggX2_divisor_X2_divisor
set_option maxRecDepth 20000 in
theorem ggX2_ratio_X2_divisor : GoodIn wsX2_ratio wsX2_divisor := goodIn_r _ [6, 3, 4, 5] (by decide +kernel) (by decide +kernel)
set_option maxRecDepth 20000 in
theorem gX2_ratio_X2_divisor : GoodIn wsX2_ratio (va_wsS RX2 22 yX2_divisor wsX2_divisor) := goodIn_app (goodIn_of _ (by decide +kernel)) ggX2_ratio_X2_divisor
set_option maxRecDepth 20000 in
theorem ggX2_isLonger_X2_ratio : GoodIn wsX2_isLonger wsX2_ratio := goodIn_r _ [5, 6, 7, 8, 9, 4, 10, 11, 12, 13, 14, 15, 16] (by decide +kernel) (by decide +kernel)
set_option maxRecDepth 20000 in
theorem gX2_isLonger_X2_ratio : GoodIn wsX2_isLonger (wsV RX2 26 RX2 yX2_ratio wsX2_ratio) := goodIn_app (goodIn_of _ (by decide +kernel)) ggX2_isLonger_X2_ratio
set_option maxRecDepth 20000 in
theorem ggX2_order_X2_isLonger : GoodIn wsX2_order wsX2_isLonger := goodIn_r _ [7, 8, 9, 10, 6, 11, 1, 12, 13, 14, 15, 16, 17, 18, 19, 20, 21] (by decide +kernel) (by decide +kernel)
set_option maxRecDepth 20000 in
theorem gX2_order_X2_isLonger : GoodIn wsX2_order (wsV RX2 30 RX2 yX2_isLonger wsX2_isLonger) := goodIn_app (goodIn_of _ (by decide +kernel)) ggX2_order_X2_isLonger
set_option maxRecDepth 20000 in
theorem ggX2_pass_X2_isHonest : GoodIn wsX2_pass wsX2_isHonest := goodIn_r _ [12, 13, 14, 15, 16, 17, 18, 19] (by decide +kernel) (by decide +kernel)
set_option maxRecDepth 20000 in
theorem gX2_pass_X2_isHonest : GoodIn wsX2_pass (wsV RX2 41 RX2 yX2_isHonest wsX2_isHonest) := goodIn_app (goodIn_of _ (by decide +kernel)) ggX2_pass_X2_isHonest
set_option maxRecDepth 20000 in
theorem ggX2_behind_X2_pass : GoodIn wsX2_behind wsX2_pass := goodIn_r _ [6, 7, 8, 1, 9, 10, 11, 12, 13, 14, 15, 5, 16, 17, 18, 19, 20, 21, 22, 23] (by decide +kernel) (by decide +kernel)
set_option maxRecDepth 20000 in
theorem gX2_behind_X2_pass : GoodIn wsX2_behind (wsV RX2 54 RX2 yX2_pass wsX2_pass) := goodIn_app (goodIn_of _ (by decide +kernel)) ggX2_behind_X2_pass
set_option maxRecDepth 20000 in
theorem ggX2_isSame_X1_measures : GoodIn wsX2_isSame wsX1_measures := goodIn_r _ [15, 16, 149, 150, 151, 152, 153, 154, 155, 156, 157] (by decide +kernel) (by decide +kernel)
set_option maxRecDepth 20000 in
theorem gX2_isSame_X1_measures : GoodIn wsX2_isSame (wsV RX2 66 RX1 yX1_measures wsX1_measures) := goodIn_app (goodIn_of _ (by decide +kernel)) ggX2_isSame_X1_measures
set_option maxRecDepth 20000 in
theorem ggX2_isSame_X1_stalls : GoodIn wsX2_isSame wsX1_stalls := goodIn_r _ [20, 21, 149, 150, 151, 152, 153, 154, 155, 156, 157, 158, 159, 160, 161, 162] (by decide +kernel) (by decide +kernel)
set_option maxRecDepth 20000 in
theorem gX2_isSame_X1_stalls : GoodIn wsX2_isSame (wsV RX2 70 RX1 yX1_stalls wsX1_stalls) := goodIn_app (goodIn_of _ (by decide +kernel)) ggX2_isSame_X1_stalls
set_option maxRecDepth 20000 in
theorem ggX2_isSame_X1_days : GoodIn wsX2_isSame wsX1_days := goodIn_r _ [25, 21, 149, 150, 151, 152, 153, 154, 155, 156, 157, 158, 159, 160, 161, 162] (by decide +kernel) (by decide +kernel)
set_option maxRecDepth 20000 in
theorem gX2_isSame_X1_days : GoodIn wsX2_isSame (wsV RX2 72 RX1 yX1_days wsX1_days) := goodIn_app (goodIn_of _ (by decide +kernel)) ggX2_isSame_X1_days
set_option maxRecDepth 20000 in
theorem ggX2_isSame_X1_standard : GoodIn wsX2_isSame wsX1_standard := goodIn_r _ [29, 30, 149, 150, 151, 152, 153, 154, 155, 156, 157] (by decide +kernel) (by decide +kernel)
set_option maxRecDepth 20000 in
theorem gX2_isSame_X1_standard : GoodIn wsX2_isSame (wsV RX2 75 RX1 yX1_standard wsX1_standard) := goodIn_app (goodIn_of _ (by decide +kernel)) ggX2_isSame_X1_standard
set_option maxRecDepth 20000 in
theorem ggX2_isSame_X1_tolerance : GoodIn wsX2_isSame wsX1_tolerance := goodIn_r _ [34, 21, 149, 150, 151, 152, 153, 154, 155, 156, 157, 158, 159, 160, 161, 162] (by decide +kernel) (by decide +kernel)
set_option maxRecDepth 20000 in
theorem gX2_isSame_X1_tolerance : GoodIn wsX2_isSame (wsV RX2 77 RX1 yX1_tolerance wsX1_tolerance) := goodIn_app (goodIn_of _ (by decide +kernel)) ggX2_isSame_X1_tolerance
set_option maxRecDepth 20000 in
theorem ggX2_isSame_X1_fines : GoodIn wsX2_isSame wsX1_fines := goodIn_r _ [38, 39, 149, 150, 151, 152, 153, 154, 155, 156, 157] (by decide +kernel) (by decide +kernel)
set_option maxRecDepth 20000 in
theorem gX2_isSame_X1_fines : GoodIn wsX2_isSame (wsV RX2 79 RX1 yX1_fines wsX1_fines) := goodIn_app (goodIn_of _ (by decide +kernel)) ggX2_isSame_X1_fines
set_option maxRecDepth 20000 in
theorem ggX2_isSame_X2_order : GoodIn wsX2_isSame wsX2_order := goodIn_r _ [44, 1, 45, 46, 47, 48, 43, 49, 50, 51, 52, 53, 54, 55, 56, 57, 143, 144, 145, 146, 147, 148] (by decide +kernel) (by decide +kernel)
set_option maxRecDepth 20000 in
theorem gX2_isSame_X2_order : GoodIn wsX2_isSame (wsV RX2 34 RX2 yX2_order wsX2_order) := goodIn_app (goodIn_of _ (by decide +kernel)) ggX2_isSame_X2_order
set_option maxRecDepth 20000 in
theorem ggX2_isSame_X2_ratio : GoodIn wsX2_isSame wsX2_ratio := goodIn_r _ [53, 1, 54, 55, 56, 43, 57, 143, 144, 145, 146, 147, 148] (by decide +kernel) (by decide +kernel)
set_option maxRecDepth 20000 in
theorem gX2_isSame_X2_ratio : GoodIn wsX2_isSame (wsV RX2 26 RX2 yX2_ratio wsX2_ratio) := goodIn_app (goodIn_of _ (by decide +kernel)) ggX2_isSame_X2_ratio
set_option maxRecDepth 20000 in
theorem ggX2_isSame_X2_isLonger : GoodIn wsX2_isSame wsX2_isLonger := goodIn_r _ [49, 50, 51, 52, 43, 53, 1, 54, 55, 56, 57, 143, 144, 145, 146, 147, 148] (by decide +kernel) (by decide +kernel)
set_option maxRecDepth 20000 in
theorem gX2_isSame_X2_isLonger : GoodIn wsX2_isSame (wsV RX2 30 RX2 yX2_isLonger wsX2_isLonger) := goodIn_app (goodIn_of _ (by decide +kernel)) ggX2_isSame_X2_isLonger
set_option maxRecDepth 20000 in
theorem ggX2_isSame_X1_baseOf : GoodIn wsX2_isSame wsX1_baseOf := goodIn_ca (goodIn_r _ [61, 62, 63, 64, 65, 14, 66, 67, 68, 16, 69, 70, 71, 149, 150, 151, 152, 153, 154, 155, 156, 157] (by decide +kernel) (by decide +kernel)) (goodIn_sub (fun _ h => List.mem_cons_of_mem _ (List.mem_append_right _ h)) (by decide +kernel))
set_option maxRecDepth 20000 in
theorem gX2_isSame_X1_baseOf : GoodIn wsX2_isSame (wsV RX2 81 RX1 yX1_baseOf wsX1_baseOf) := goodIn_app (goodIn_of _ (by decide +kernel)) ggX2_isSame_X1_baseOf
set_option maxRecDepth 20000 in
theorem ggX2_isSame_X1_stepsToEll : GoodIn wsX2_isSame wsX1_stepsToEll := goodIn_ca (goodIn_r _ [75, 76, 63, 64, 65, 14, 66, 67, 68, 16, 69, 70, 71, 149, 150, 151, 152, 153, 154, 155, 156, 157] (by decide +kernel) (by decide +kernel)) (goodIn_sub (fun _ h => List.mem_cons_of_mem _ (List.mem_append_right _ h)) (by decide +kernel))
set_option maxRecDepth 20000 in
theorem gX2_isSame_X1_stepsToEll : GoodIn wsX2_isSame (wsV RX2 84 RX1 yX1_stepsToEll wsX1_stepsToEll) := goodIn_app (goodIn_of _ (by decide +kernel)) ggX2_isSame_X1_stepsToEll
set_option maxRecDepth 20000 in
theorem ggX2_isSame_X1_lengthTop : GoodIn wsX2_isSame wsX1_lengthTop := goodIn_ca (goodIn_r _ [80, 81, 30, 63, 64, 65, 14, 66, 67, 68, 16, 69, 70, 71, 82, 83, 84, 85, 86, 87, 88, 89, 90, 149, 150, 151, 152, 153, 154, 155, 156, 157] (by decide +kernel) (by decide +kernel)) (goodIn_sub (fun _ h => List.mem_cons_of_mem _ (List.mem_append_right _ h)) (by decide +kernel))
set_option maxRecDepth 20000 in
theorem gX2_isSame_X1_lengthTop : GoodIn wsX2_isSame (wsV RX2 87 RX1 yX1_lengthTop wsX1_lengthTop) := goodIn_app (goodIn_of _ (by decide +kernel)) ggX2_isSame_X1_lengthTop
set_option maxRecDepth 20000 in
theorem ggX2_isSame_X1_lengthBottom : GoodIn wsX2_isSame wsX1_lengthBottom := goodIn_ca (goodIn_r _ [94, 81, 30, 63, 64, 65, 14, 66, 67, 68, 16, 69, 70, 71, 82, 83, 84, 85, 86, 87, 88, 89, 90, 149, 150, 151, 152, 153, 154, 155, 156, 157] (by decide +kernel) (by decide +kernel)) (goodIn_sub (fun _ h => List.mem_cons_of_mem _ (List.mem_append_right _ h)) (by decide +kernel))
set_option maxRecDepth 20000 in
theorem gX2_isSame_X1_lengthBottom : GoodIn wsX2_isSame (wsV RX2 91 RX1 yX1_lengthBottom wsX1_lengthBottom) := goodIn_app (goodIn_of _ (by decide +kernel)) ggX2_isSame_X1_lengthBottom
set_option maxRecDepth 20000 in
theorem ggX2_isSame_X1_driftOf : GoodIn wsX2_isSame wsX1_driftOf := goodIn_ca (goodIn_r _ [98, 21, 99, 100, 101, 14, 102, 67, 68, 69, 70, 71, 149, 150, 151, 152, 153, 154, 155, 156, 157, 158, 159, 160, 161, 162] (by decide +kernel) (by decide +kernel)) (goodIn_sub (fun _ h => List.mem_cons_of_mem _ (List.mem_append_right _ h)) (by decide +kernel))
set_option maxRecDepth 20000 in
theorem gX2_isSame_X1_driftOf : GoodIn wsX2_isSame (wsV RX2 94 RX1 yX1_driftOf wsX1_driftOf) := goodIn_app (goodIn_of _ (by decide +kernel)) ggX2_isSame_X1_driftOf
set_option maxRecDepth 20000 in
theorem ggX2_isSame_X1_wearOf : GoodIn wsX2_isSame wsX1_wearOf := goodIn_ca (goodIn_r _ [106, 21, 99, 100, 101, 14, 102, 67, 68, 69, 70, 71, 149, 150, 151, 152, 153, 154, 155, 156, 157, 158, 159, 160, 161, 162] (by decide +kernel) (by decide +kernel)) (goodIn_sub (fun _ h => List.mem_cons_of_mem _ (List.mem_append_right _ h)) (by decide +kernel))
set_option maxRecDepth 20000 in
theorem gX2_isSame_X1_wearOf : GoodIn wsX2_isSame (wsV RX2 97 RX1 yX1_wearOf wsX1_wearOf) := goodIn_app (goodIn_of _ (by decide +kernel)) ggX2_isSame_X1_wearOf
set_option maxRecDepth 20000 in
theorem ggX2_isSame_X1_isHonest : GoodIn wsX2_isSame wsX1_isHonest := goodIn_ca (goodIn_r _ [110, 21, 99, 100, 101, 14, 102, 67, 68, 69, 70, 71, 111, 112, 113, 114, 115, 8, 9, 10, 116, 149, 150, 151, 152, 153, 154, 155, 156, 157, 158, 159, 160, 161, 162] (by decide +kernel) (by decide +kernel)) (goodIn_sub (fun _ h => List.mem_cons_of_mem _ (List.mem_append_right _ h)) (by decide +kernel))
set_option maxRecDepth 20000 in
theorem gX2_isSame_X1_isHonest : GoodIn wsX2_isSame (wsV RX2 100 RX1 yX1_isHonest wsX1_isHonest) := goodIn_app (goodIn_of _ (by decide +kernel)) ggX2_isSame_X1_isHonest
set_option maxRecDepth 20000 in
theorem ggX2_isSame_X2_isHonest : GoodIn wsX2_isSame wsX2_isHonest := goodIn_r _ [120, 5, 143, 144, 145, 146, 147, 148] (by decide +kernel) (by decide +kernel)
set_option maxRecDepth 20000 in
theorem gX2_isSame_X2_isHonest : GoodIn wsX2_isSame (wsV RX2 41 RX2 yX2_isHonest wsX2_isHonest) := goodIn_app (goodIn_of _ (by decide +kernel)) ggX2_isSame_X2_isHonest
set_option maxRecDepth 20000 in
theorem ggX2_isSame_X1_longest : GoodIn wsX2_isSame wsX1_longest := goodIn_r _ [124, 125, 149, 150, 151, 152, 153, 154, 155, 156, 157] (by decide +kernel) (by decide +kernel)
set_option maxRecDepth 20000 in
theorem gX2_isSame_X1_longest : GoodIn wsX2_isSame (wsV RX2 103 RX1 yX1_longest wsX1_longest) := goodIn_app (goodIn_of _ (by decide +kernel)) ggX2_isSame_X1_longest
set_option maxRecDepth 20000 in
theorem ggX2_isSame_X1_shortest : GoodIn wsX2_isSame wsX1_shortest := goodIn_r _ [129, 16, 81, 149, 150, 151, 152, 153, 154, 155, 156, 157] (by decide +kernel) (by decide +kernel)
set_option maxRecDepth 20000 in
theorem gX2_isSame_X1_shortest : GoodIn wsX2_isSame (wsV RX2 106 RX1 yX1_shortest wsX1_shortest) := goodIn_app (goodIn_of _ (by decide +kernel)) ggX2_isSame_X1_shortest
set_option maxRecDepth 20000 in
theorem ggX2_isSame_X1_mostHonest : GoodIn wsX2_isSame wsX1_mostHonest := goodIn_r _ [133, 21, 134, 8, 9, 10, 149, 150, 151, 152, 153, 154, 155, 156, 157, 158, 159, 160, 161, 162] (by decide +kernel) (by decide +kernel)
set_option maxRecDepth 20000 in
theorem gX2_isSame_X1_mostHonest : GoodIn wsX2_isSame (wsV RX2 109 RX1 yX1_mostHonest wsX1_mostHonest) := goodIn_app (goodIn_of _ (by decide +kernel)) ggX2_isSame_X1_mostHonest
set_option maxRecDepth 20000 in
theorem ggX2_isSame_X1_mostGenerous : GoodIn wsX2_isSame wsX1_mostGenerous := goodIn_r _ [138, 21, 149, 150, 151, 152, 153, 154, 155, 156, 157, 158, 159, 160, 161, 162] (by decide +kernel) (by decide +kernel)
set_option maxRecDepth 20000 in
theorem gX2_isSame_X1_mostGenerous : GoodIn wsX2_isSame (wsV RX2 112 RX1 yX1_mostGenerous wsX1_mostGenerous) := goodIn_app (goodIn_of _ (by decide +kernel)) ggX2_isSame_X1_mostGenerous
set_option maxRecDepth 20000 in
theorem ggX2_isSame_X1_meanDrift : GoodIn wsX2_isSame wsX1_meanDrift := goodIn_r _ [142, 21, 149, 150, 151, 152, 153, 154, 155, 156, 157, 158, 159, 160, 161, 162] (by decide +kernel) (by decide +kernel)
set_option maxRecDepth 20000 in
theorem gX2_isSame_X1_meanDrift : GoodIn wsX2_isSame (wsV RX2 115 RX1 yX1_meanDrift wsX1_meanDrift) := goodIn_app (goodIn_of _ (by decide +kernel)) ggX2_isSame_X1_meanDrift
