theorem dX2_init_0 : decode cX2_init 0 = .ok (.aload_n 0, 1) := by decide +kernel
theorem dX2_init_1 : decode cX2_init 1 = .ok (.invokespecial 1, 3) := by decide +kernel
theorem dX2_init_4 : decode cX2_init 4 = .ok (.aload_n 0, 1) := by decide +kernel
theorem dX2_init_5 : decode cX2_init 5 = .ok (.iconst 1, 1) := by decide +kernel
theorem dX2_init_6 : decode cX2_init 6 = .ok (.putfield 7, 3) := by decide +kernel
theorem dX2_init_9 : decode cX2_init 9 = .ok (.aload_n 0, 1) := by decide +kernel
theorem dX2_init_10 : decode cX2_init 10 = .ok (.bipush 8, 2) := by decide +kernel
theorem dX2_init_12 : decode cX2_init 12 = .ok (.newarray .int, 2) := by decide +kernel
theorem dX2_init_14 : decode cX2_init 14 = .ok (.putfield 13, 3) := by decide +kernel
theorem dX2_init_17 : decode cX2_init 17 = .ok (.aload_n 0, 1) := by decide +kernel
theorem dX2_init_18 : decode cX2_init 18 = .ok (.bipush 8, 2) := by decide +kernel
theorem dX2_init_20 : decode cX2_init 20 = .ok (.newarray .int, 2) := by decide +kernel
theorem dX2_init_22 : decode cX2_init 22 = .ok (.putfield 17, 3) := by decide +kernel
theorem dX2_init_25 : decode cX2_init 25 = .ok (.aload_n 0, 1) := by decide +kernel
theorem dX2_init_26 : decode cX2_init 26 = .ok (.bipush 8, 2) := by decide +kernel
theorem dX2_init_28 : decode cX2_init 28 = .ok (.newarray .int, 2) := by decide +kernel
theorem dX2_init_30 : decode cX2_init 30 = .ok (.putfield 20, 3) := by decide +kernel
theorem dX2_init_33 : decode cX2_init 33 = .ok (.aload_n 0, 1) := by decide +kernel
theorem dX2_init_34 : decode cX2_init 34 = .ok (.bipush 8, 2) := by decide +kernel
theorem dX2_init_36 : decode cX2_init 36 = .ok (.newarray .long, 2) := by decide +kernel
theorem dX2_init_38 : decode cX2_init 38 = .ok (.putfield 23, 3) := by decide +kernel
theorem dX2_init_41 : decode cX2_init 41 = .ok (.aload_n 0, 1) := by decide +kernel
theorem dX2_init_42 : decode cX2_init 42 = .ok (.bipush 8, 2) := by decide +kernel
theorem dX2_init_44 : decode cX2_init 44 = .ok (.newarray .int, 2) := by decide +kernel
theorem dX2_init_46 : decode cX2_init 46 = .ok (.putfield 27, 3) := by decide +kernel
theorem dX2_init_49 : decode cX2_init 49 = .ok (.aload_n 0, 1) := by decide +kernel
theorem dX2_init_50 : decode cX2_init 50 = .ok (.bipush 6, 2) := by decide +kernel
theorem dX2_init_52 : decode cX2_init 52 = .ok (.newarray .int, 2) := by decide +kernel
theorem dX2_init_54 : decode cX2_init 54 = .ok (.putfield 30, 3) := by decide +kernel
theorem dX2_init_57 : decode cX2_init 57 = .ok (.aload_n 0, 1) := by decide +kernel
theorem dX2_init_58 : decode cX2_init 58 = .ok (.bipush 10, 2) := by decide +kernel
theorem dX2_init_60 : decode cX2_init 60 = .ok (.putfield 33, 3) := by decide +kernel
theorem dX2_init_63 : decode cX2_init 63 = .ok (.aload_n 0, 1) := by decide +kernel
theorem dX2_init_64 : decode cX2_init 64 = .ok (.bipush 8, 2) := by decide +kernel
theorem dX2_init_66 : decode cX2_init 66 = .ok (.newarray .int, 2) := by decide +kernel
theorem dX2_init_68 : decode cX2_init 68 = .ok (.putfield 36, 3) := by decide +kernel
theorem dX2_init_71 : decode cX2_init 71 = .ok (.aload_n 0, 1) := by decide +kernel
theorem dX2_init_72 : decode cX2_init 72 = .ok (.bipush 8, 2) := by decide +kernel
theorem dX2_init_74 : decode cX2_init 74 = .ok (.newarray .int, 2) := by decide +kernel
theorem dX2_init_76 : decode cX2_init 76 = .ok (.putfield 39, 3) := by decide +kernel
theorem dX2_init_79 : decode cX2_init 79 = .ok (.aload_n 0, 1) := by decide +kernel
theorem dX2_init_80 : decode cX2_init 80 = .ok (.getfield 13, 3) := by decide +kernel
theorem dX2_init_83 : decode cX2_init 83 = .ok (.iconst 0, 1) := by decide +kernel
theorem dX2_init_84 : decode cX2_init 84 = .ok (.iconst (-1), 1) := by decide +kernel
theorem dX2_init_85 : decode cX2_init 85 = .ok (.iastore, 1) := by decide +kernel
theorem dX2_init_86 : decode cX2_init 86 = .ok (.aload_n 0, 1) := by decide +kernel
theorem dX2_init_87 : decode cX2_init 87 = .ok (.getfield 23, 3) := by decide +kernel
theorem dX2_init_90 : decode cX2_init 90 = .ok (.iconst 0, 1) := by decide +kernel
theorem dX2_init_91 : decode cX2_init 91 = .ok (.lconst 1, 1) := by decide +kernel
theorem dX2_init_92 : decode cX2_init 92 = .ok (.lastore, 1) := by decide +kernel
theorem dX2_init_93 : decode cX2_init 93 = .ok (.return_, 1) := by decide +kernel
theorem dX2_thrown_0 : decode cX2_thrown 0 = .ok (.aload_n 0, 1) := by decide +kernel
theorem dX2_thrown_1 : decode cX2_thrown 1 = .ok (.getfield 42, 3) := by decide +kernel
theorem dX2_thrown_4 : decode cX2_thrown 4 = .ok (.ireturn, 1) := by decide +kernel
theorem dX2_fail_0 : decode cX2_fail 0 = .ok (.aload_n 0, 1) := by decide +kernel
theorem dX2_fail_1 : decode cX2_fail 1 = .ok (.iload_n 1, 1) := by decide +kernel
theorem dX2_fail_2 : decode cX2_fail 2 = .ok (.putfield 42, 3) := by decide +kernel
theorem dX2_fail_5 : decode cX2_fail 5 = .ok (.iconst 0, 1) := by decide +kernel
theorem dX2_fail_6 : decode cX2_fail 6 = .ok (.ireturn, 1) := by decide +kernel
theorem dX2_told_0 : decode cX2_told 0 = .ok (.aload_n 0, 1) := by decide +kernel
theorem dX2_told_1 : decode cX2_told 1 = .ok (.iconst 0, 1) := by decide +kernel
theorem dX2_told_2 : decode cX2_told 2 = .ok (.putfield 42, 3) := by decide +kernel
theorem dX2_told_5 : decode cX2_told 5 = .ok (.iload_n 1, 1) := by decide +kernel
theorem dX2_told_6 : decode cX2_told 6 = .ok (.ireturn, 1) := by decide +kernel
theorem dX2_isIn_0 : decode cX2_isIn 0 = .ok (.iload_n 0, 1) := by decide +kernel
theorem dX2_isIn_1 : decode cX2_isIn 1 = .ok (.iload_n 1, 1) := by decide +kernel
theorem dX2_isIn_2 : decode cX2_isIn 2 = .ok (.if_icmp .lt 12, 3) := by decide +kernel
theorem dX2_isIn_5 : decode cX2_isIn 5 = .ok (.iload_n 0, 1) := by decide +kernel
theorem dX2_isIn_6 : decode cX2_isIn 6 = .ok (.iload_n 2, 1) := by decide +kernel
theorem dX2_isIn_7 : decode cX2_isIn 7 = .ok (.if_icmp .gt 7, 3) := by decide +kernel
theorem dX2_isIn_10 : decode cX2_isIn 10 = .ok (.iconst 1, 1) := by decide +kernel
theorem dX2_isIn_11 : decode cX2_isIn 11 = .ok (.goto 4, 3) := by decide +kernel
theorem dX2_isIn_14 : decode cX2_isIn 14 = .ok (.iconst 0, 1) := by decide +kernel
theorem dX2_isIn_15 : decode cX2_isIn 15 = .ok (.ireturn, 1) := by decide +kernel
set_option maxRecDepth 20000 in
theorem ggX2_isMeasure_X2_isIn : GoodIn wsX2_isMeasure wsX2_isIn := goodIn_r _ [5] (by decide +kernel) (by decide +kernel)
set_option maxRecDepth 20000 in
theorem gX2_isMeasure_X2_isIn : GoodIn wsX2_isMeasure (va_wsS RX2 45 yX2_isIn wsX2_isIn) := goodIn_app (goodIn_of _ (by decide +kernel)) ggX2_isMeasure_X2_isIn
theorem dX2_isMeasure_0 : decode cX2_isMeasure 0 = .ok (.iload_n 1, 1) := by decide +kernel
theorem dX2_isMeasure_1 : decode cX2_isMeasure 1 = .ok (.iconst 0, 1) := by decide +kernel
theorem dX2_isMeasure_2 : decode cX2_isMeasure 2 = .ok (.aload_n 0, 1) := by decide +kernel
theorem dX2_isMeasure_3 : decode cX2_isMeasure 3 = .ok (.getfield 7, 3) := by decide +kernel
theorem dX2_isMeasure_6 : decode cX2_isMeasure 6 = .ok (.iconst 1, 1) := by decide +kernel
theorem dX2_isMeasure_7 : decode cX2_isMeasure 7 = .ok (.isub, 1) := by decide +kernel
theorem dX2_isMeasure_8 : decode cX2_isMeasure 8 = .ok (.invokestatic 45, 3) := by decide +kernel
theorem dX2_isMeasure_11 : decode cX2_isMeasure 11 = .ok (.ireturn, 1) := by decide +kernel
set_option maxRecDepth 20000 in
theorem ggX2_isStall_X2_isIn : GoodIn wsX2_isStall wsX2_isIn := goodIn_r _ [5] (by decide +kernel) (by decide +kernel)
set_option maxRecDepth 20000 in
theorem gX2_isStall_X2_isIn : GoodIn wsX2_isStall (va_wsS RX2 45 yX2_isIn wsX2_isIn) := goodIn_app (goodIn_of _ (by decide +kernel)) ggX2_isStall_X2_isIn
theorem dX2_isStall_0 : decode cX2_isStall 0 = .ok (.iload_n 1, 1) := by decide +kernel
theorem dX2_isStall_1 : decode cX2_isStall 1 = .ok (.iconst 0, 1) := by decide +kernel
theorem dX2_isStall_2 : decode cX2_isStall 2 = .ok (.aload_n 0, 1) := by decide +kernel
theorem dX2_isStall_3 : decode cX2_isStall 3 = .ok (.getfield 49, 3) := by decide +kernel
theorem dX2_isStall_6 : decode cX2_isStall 6 = .ok (.iconst 1, 1) := by decide +kernel
theorem dX2_isStall_7 : decode cX2_isStall 7 = .ok (.isub, 1) := by decide +kernel
theorem dX2_isStall_8 : decode cX2_isStall 8 = .ok (.invokestatic 45, 3) := by decide +kernel
theorem dX2_isStall_11 : decode cX2_isStall 11 = .ok (.ireturn, 1) := by decide +kernel
theorem dX2_divisor_0 : decode cX2_divisor 0 = .ok (.lload_n 0, 1) := by decide +kernel
theorem dX2_divisor_1 : decode cX2_divisor 1 = .ok (.lstore 4, 2) := by decide +kernel
theorem dX2_divisor_3 : decode cX2_divisor 3 = .ok (.lload_n 2, 1) := by decide +kernel
theorem dX2_divisor_4 : decode cX2_divisor 4 = .ok (.lstore 6, 2) := by decide +kernel
theorem dX2_divisor_6 : decode cX2_divisor 6 = .ok (.lload 6, 2) := by decide +kernel
theorem dX2_divisor_8 : decode cX2_divisor 8 = .ok (.lconst 0, 1) := by decide +kernel
theorem dX2_divisor_9 : decode cX2_divisor 9 = .ok (.lcmp, 1) := by decide +kernel
theorem dX2_divisor_10 : decode cX2_divisor 10 = .ok (.ifCond .le 21, 3) := by decide +kernel
theorem dX2_divisor_13 : decode cX2_divisor 13 = .ok (.lload 4, 2) := by decide +kernel
theorem dX2_divisor_15 : decode cX2_divisor 15 = .ok (.lload 6, 2) := by decide +kernel
theorem dX2_divisor_17 : decode cX2_divisor 17 = .ok (.lrem, 1) := by decide +kernel
theorem dX2_divisor_18 : decode cX2_divisor 18 = .ok (.lstore 8, 2) := by decide +kernel
theorem dX2_divisor_20 : decode cX2_divisor 20 = .ok (.lload 6, 2) := by decide +kernel
theorem dX2_divisor_22 : decode cX2_divisor 22 = .ok (.lstore 4, 2) := by decide +kernel
theorem dX2_divisor_24 : decode cX2_divisor 24 = .ok (.lload 8, 2) := by decide +kernel
theorem dX2_divisor_26 : decode cX2_divisor 26 = .ok (.lstore 6, 2) := by decide +kernel
theorem dX2_divisor_28 : decode cX2_divisor 28 = .ok (.goto (-22), 3) := by decide +kernel
theorem dX2_divisor_31 : decode cX2_divisor 31 = .ok (.lload 4, 2) := by decide +kernel
theorem dX2_divisor_33 : decode cX2_divisor 33 = .ok (.lreturn, 1) := by decide +kernel
theorem dX2_lay_0 : decode cX2_lay 0 = .ok (.lconst 1, 1) := by decide +kernel
theorem dX2_lay_1 : decode cX2_lay 1 = .ok (.lstore_n 1, 1) := by decide +kernel
theorem dX2_lay_2 : decode cX2_lay 2 = .ok (.iconst 1, 1) := by decide +kernel
theorem dX2_lay_3 : decode cX2_lay 3 = .ok (.istore_n 3, 1) := by decide +kernel
theorem dX2_lay_4 : decode cX2_lay 4 = .ok (.iload_n 3, 1) := by decide +kernel
theorem dX2_lay_5 : decode cX2_lay 5 = .ok (.aload_n 0, 1) := by decide +kernel
theorem dX2_lay_6 : decode cX2_lay 6 = .ok (.getfield 7, 3) := by decide +kernel
theorem dX2_lay_9 : decode cX2_lay 9 = .ok (.if_icmp .ge 19, 3) := by decide +kernel
theorem dX2_lay_12 : decode cX2_lay 12 = .ok (.lload_n 1, 1) := by decide +kernel
theorem dX2_lay_13 : decode cX2_lay 13 = .ok (.aload_n 0, 1) := by decide +kernel
theorem dX2_lay_14 : decode cX2_lay 14 = .ok (.getfield 20, 3) := by decide +kernel
theorem dX2_lay_17 : decode cX2_lay 17 = .ok (.iload_n 3, 1) := by decide +kernel
theorem dX2_lay_18 : decode cX2_lay 18 = .ok (.iaload, 1) := by decide +kernel
theorem dX2_lay_19 : decode cX2_lay 19 = .ok (.i2l, 1) := by decide +kernel
theorem dX2_lay_20 : decode cX2_lay 20 = .ok (.lmul, 1) := by decide +kernel
theorem dX2_lay_21 : decode cX2_lay 21 = .ok (.lstore_n 1, 1) := by decide +kernel
theorem dX2_lay_22 : decode cX2_lay 22 = .ok (.iinc 3 1, 3) := by decide +kernel
theorem dX2_lay_25 : decode cX2_lay 25 = .ok (.goto (-21), 3) := by decide +kernel
theorem dX2_lay_28 : decode cX2_lay 28 = .ok (.aload_n 0, 1) := by decide +kernel
theorem dX2_lay_29 : decode cX2_lay 29 = .ok (.getfield 23, 3) := by decide +kernel
theorem dX2_lay_32 : decode cX2_lay 32 = .ok (.iconst 0, 1) := by decide +kernel
theorem dX2_lay_33 : decode cX2_lay 33 = .ok (.lload_n 1, 1) := by decide +kernel
theorem dX2_lay_34 : decode cX2_lay 34 = .ok (.lastore, 1) := by decide +kernel
theorem dX2_lay_35 : decode cX2_lay 35 = .ok (.iconst 1, 1) := by decide +kernel
theorem dX2_lay_36 : decode cX2_lay 36 = .ok (.istore_n 3, 1) := by decide +kernel
theorem dX2_lay_37 : decode cX2_lay 37 = .ok (.iload_n 3, 1) := by decide +kernel
theorem dX2_lay_38 : decode cX2_lay 38 = .ok (.aload_n 0, 1) := by decide +kernel
theorem dX2_lay_39 : decode cX2_lay 39 = .ok (.getfield 7, 3) := by decide +kernel
theorem dX2_lay_42 : decode cX2_lay 42 = .ok (.if_icmp .ge 42, 3) := by decide +kernel
theorem dX2_lay_45 : decode cX2_lay 45 = .ok (.aload_n 0, 1) := by decide +kernel
theorem dX2_lay_46 : decode cX2_lay 46 = .ok (.getfield 23, 3) := by decide +kernel
theorem dX2_lay_49 : decode cX2_lay 49 = .ok (.iload_n 3, 1) := by decide +kernel
theorem dX2_lay_50 : decode cX2_lay 50 = .ok (.aload_n 0, 1) := by decide +kernel
theorem dX2_lay_51 : decode cX2_lay 51 = .ok (.getfield 23, 3) := by decide +kernel
theorem dX2_lay_54 : decode cX2_lay 54 = .ok (.aload_n 0, 1) := by decide +kernel
theorem dX2_lay_55 : decode cX2_lay 55 = .ok (.getfield 13, 3) := by decide +kernel
theorem dX2_lay_58 : decode cX2_lay 58 = .ok (.iload_n 3, 1) := by decide +kernel
theorem dX2_lay_59 : decode cX2_lay 59 = .ok (.iaload, 1) := by decide +kernel
theorem dX2_lay_60 : decode cX2_lay 60 = .ok (.laload, 1) := by decide +kernel
theorem dX2_lay_61 : decode cX2_lay 61 = .ok (.aload_n 0, 1) := by decide +kernel
theorem dX2_lay_62 : decode cX2_lay 62 = .ok (.getfield 20, 3) := by decide +kernel
theorem dX2_lay_65 : decode cX2_lay 65 = .ok (.iload_n 3, 1) := by decide +kernel
theorem dX2_lay_66 : decode cX2_lay 66 = .ok (.iaload, 1) := by decide +kernel
theorem dX2_lay_67 : decode cX2_lay 67 = .ok (.i2l, 1) := by decide +kernel
theorem dX2_lay_68 : decode cX2_lay 68 = .ok (.ldiv, 1) := by decide +kernel
theorem dX2_lay_69 : decode cX2_lay 69 = .ok (.aload_n 0, 1) := by decide +kernel
theorem dX2_lay_70 : decode cX2_lay 70 = .ok (.getfield 17, 3) := by decide +kernel
theorem dX2_lay_73 : decode cX2_lay 73 = .ok (.iload_n 3, 1) := by decide +kernel
theorem dX2_lay_74 : decode cX2_lay 74 = .ok (.iaload, 1) := by decide +kernel
theorem dX2_lay_75 : decode cX2_lay 75 = .ok (.i2l, 1) := by decide +kernel
theorem dX2_lay_76 : decode cX2_lay 76 = .ok (.lmul, 1) := by decide +kernel
theorem dX2_lay_77 : decode cX2_lay 77 = .ok (.lastore, 1) := by decide +kernel
theorem dX2_lay_78 : decode cX2_lay 78 = .ok (.iinc 3 1, 3) := by decide +kernel
theorem dX2_lay_81 : decode cX2_lay 81 = .ok (.goto (-44), 3) := by decide +kernel
theorem dX2_lay_84 : decode cX2_lay 84 = .ok (.iconst 0, 1) := by decide +kernel
theorem dX2_lay_85 : decode cX2_lay 85 = .ok (.istore_n 3, 1) := by decide +kernel
theorem dX2_lay_86 : decode cX2_lay 86 = .ok (.iload_n 3, 1) := by decide +kernel
theorem dX2_lay_87 : decode cX2_lay 87 = .ok (.aload_n 0, 1) := by decide +kernel
theorem dX2_lay_88 : decode cX2_lay 88 = .ok (.getfield 7, 3) := by decide +kernel
theorem dX2_lay_91 : decode cX2_lay 91 = .ok (.if_icmp .ge 71, 3) := by decide +kernel
theorem dX2_lay_94 : decode cX2_lay 94 = .ok (.iload_n 3, 1) := by decide +kernel
theorem dX2_lay_95 : decode cX2_lay 95 = .ok (.istore 4, 2) := by decide +kernel
theorem dX2_lay_97 : decode cX2_lay 97 = .ok (.iload 4, 2) := by decide +kernel
theorem dX2_lay_99 : decode cX2_lay 99 = .ok (.ifCond .le 49, 3) := by decide +kernel
theorem dX2_lay_102 : decode cX2_lay 102 = .ok (.aload_n 0, 1) := by decide +kernel
theorem dX2_lay_103 : decode cX2_lay 103 = .ok (.getfield 23, 3) := by decide +kernel
theorem dX2_lay_106 : decode cX2_lay 106 = .ok (.aload_n 0, 1) := by decide +kernel
theorem dX2_lay_107 : decode cX2_lay 107 = .ok (.getfield 27, 3) := by decide +kernel
theorem dX2_lay_110 : decode cX2_lay 110 = .ok (.iload 4, 2) := by decide +kernel
theorem dX2_lay_112 : decode cX2_lay 112 = .ok (.iconst 1, 1) := by decide +kernel
theorem dX2_lay_113 : decode cX2_lay 113 = .ok (.isub, 1) := by decide +kernel
theorem dX2_lay_114 : decode cX2_lay 114 = .ok (.iaload, 1) := by decide +kernel
theorem dX2_lay_115 : decode cX2_lay 115 = .ok (.laload, 1) := by decide +kernel
theorem dX2_lay_116 : decode cX2_lay 116 = .ok (.aload_n 0, 1) := by decide +kernel
theorem dX2_lay_117 : decode cX2_lay 117 = .ok (.getfield 23, 3) := by decide +kernel
theorem dX2_lay_120 : decode cX2_lay 120 = .ok (.iload_n 3, 1) := by decide +kernel
theorem dX2_lay_121 : decode cX2_lay 121 = .ok (.laload, 1) := by decide +kernel
theorem dX2_lay_122 : decode cX2_lay 122 = .ok (.lcmp, 1) := by decide +kernel
theorem dX2_lay_123 : decode cX2_lay 123 = .ok (.ifCond .ge 25, 3) := by decide +kernel
theorem dX2_lay_126 : decode cX2_lay 126 = .ok (.aload_n 0, 1) := by decide +kernel
theorem dX2_lay_127 : decode cX2_lay 127 = .ok (.getfield 27, 3) := by decide +kernel
theorem dX2_lay_130 : decode cX2_lay 130 = .ok (.iload 4, 2) := by decide +kernel
theorem dX2_lay_132 : decode cX2_lay 132 = .ok (.aload_n 0, 1) := by decide +kernel
theorem dX2_lay_133 : decode cX2_lay 133 = .ok (.getfield 27, 3) := by decide +kernel
theorem dX2_lay_136 : decode cX2_lay 136 = .ok (.iload 4, 2) := by decide +kernel
theorem dX2_lay_138 : decode cX2_lay 138 = .ok (.iconst 1, 1) := by decide +kernel
theorem dX2_lay_139 : decode cX2_lay 139 = .ok (.isub, 1) := by decide +kernel
theorem dX2_lay_140 : decode cX2_lay 140 = .ok (.iaload, 1) := by decide +kernel
theorem dX2_lay_141 : decode cX2_lay 141 = .ok (.iastore, 1) := by decide +kernel
theorem dX2_lay_142 : decode cX2_lay 142 = .ok (.iinc 4 (-1), 3) := by decide +kernel
theorem dX2_lay_145 : decode cX2_lay 145 = .ok (.goto (-48), 3) := by decide +kernel
theorem dX2_lay_148 : decode cX2_lay 148 = .ok (.aload_n 0, 1) := by decide +kernel
theorem dX2_lay_149 : decode cX2_lay 149 = .ok (.getfield 27, 3) := by decide +kernel
theorem dX2_lay_152 : decode cX2_lay 152 = .ok (.iload 4, 2) := by decide +kernel
theorem dX2_lay_154 : decode cX2_lay 154 = .ok (.iload_n 3, 1) := by decide +kernel
theorem dX2_lay_155 : decode cX2_lay 155 = .ok (.iastore, 1) := by decide +kernel
theorem dX2_lay_156 : decode cX2_lay 156 = .ok (.iinc 3 1, 3) := by decide +kernel
theorem dX2_lay_159 : decode cX2_lay 159 = .ok (.goto (-73), 3) := by decide +kernel
theorem dX2_lay_162 : decode cX2_lay 162 = .ok (.return_, 1) := by decide +kernel
theorem dX2_keep_0 : decode cX2_keep 0 = .ok (.aload_n 0, 1) := by decide +kernel
theorem dX2_keep_1 : decode cX2_keep 1 = .ok (.getfield 36, 3) := by decide +kernel
theorem dX2_keep_4 : decode cX2_keep 4 = .ok (.iconst 0, 1) := by decide +kernel
theorem dX2_keep_5 : decode cX2_keep 5 = .ok (.aload_n 0, 1) := by decide +kernel
theorem dX2_keep_6 : decode cX2_keep 6 = .ok (.getfield 39, 3) := by decide +kernel
theorem dX2_keep_9 : decode cX2_keep 9 = .ok (.iconst 0, 1) := by decide +kernel
theorem dX2_keep_10 : decode cX2_keep 10 = .ok (.bipush 8, 2) := by decide +kernel
theorem dX2_keep_12 : decode cX2_keep 12 = .ok (.invokestatic 52, 3) := by decide +kernel
theorem dX2_keep_15 : decode cX2_keep 15 = .ok (.return_, 1) := by decide +kernel
theorem dX2_bringBack_0 : decode cX2_bringBack 0 = .ok (.aload_n 0, 1) := by decide +kernel
theorem dX2_bringBack_1 : decode cX2_bringBack 1 = .ok (.getfield 39, 3) := by decide +kernel
theorem dX2_bringBack_4 : decode cX2_bringBack 4 = .ok (.iconst 0, 1) := by decide +kernel
theorem dX2_bringBack_5 : decode cX2_bringBack 5 = .ok (.aload_n 0, 1) := by decide +kernel
theorem dX2_bringBack_6 : decode cX2_bringBack 6 = .ok (.getfield 36, 3) := by decide +kernel
theorem dX2_bringBack_9 : decode cX2_bringBack 9 = .ok (.iconst 0, 1) := by decide +kernel
theorem dX2_bringBack_10 : decode cX2_bringBack 10 = .ok (.bipush 8, 2) := by decide +kernel
theorem dX2_bringBack_12 : decode cX2_bringBack 12 = .ok (.invokestatic 52, 3) := by decide +kernel
theorem dX2_bringBack_15 : decode cX2_bringBack 15 = .ok (.return_, 1) := by decide +kernel
theorem dX2_honest_0 : decode cX2_honest 0 = .ok (.aload_n 0, 1) := by decide +kernel
theorem dX2_honest_1 : decode cX2_honest 1 = .ok (.getfield 36, 3) := by decide +kernel
theorem dX2_honest_4 : decode cX2_honest 4 = .ok (.iconst 2, 1) := by decide +kernel
theorem dX2_honest_5 : decode cX2_honest 5 = .ok (.iload_n 1, 1) := by decide +kernel
theorem dX2_honest_6 : decode cX2_honest 6 = .ok (.iadd, 1) := by decide +kernel
theorem dX2_honest_7 : decode cX2_honest 7 = .ok (.iaload, 1) := by decide +kernel
theorem dX2_honest_8 : decode cX2_honest 8 = .ok (.invokestatic 58, 3) := by decide +kernel
theorem dX2_honest_11 : decode cX2_honest 11 = .ok (.aload_n 0, 1) := by decide +kernel
theorem dX2_honest_12 : decode cX2_honest 12 = .ok (.getfield 33, 3) := by decide +kernel
theorem dX2_honest_15 : decode cX2_honest 15 = .ok (.if_icmp .gt 7, 3) := by decide +kernel
theorem dX2_honest_18 : decode cX2_honest 18 = .ok (.iconst 1, 1) := by decide +kernel
theorem dX2_honest_19 : decode cX2_honest 19 = .ok (.goto 4, 3) := by decide +kernel
theorem dX2_honest_22 : decode cX2_honest 22 = .ok (.iconst 0, 1) := by decide +kernel
theorem dX2_honest_23 : decode cX2_honest 23 = .ok (.ireturn, 1) := by decide +kernel
set_option maxRecDepth 20000 in
theorem ggX2_dayOn_X2_honest : GoodIn wsX2_dayOn wsX2_honest := goodIn_r _ [18, 2, 11, 12, 6, 13, 19, 20, 21, 22, 23, 24, 25, 26, 27, 28, 29, 30, 31, 32, 33] (by decide +kernel) (by decide +kernel)
set_option maxRecDepth 20000 in
theorem gX2_dayOn_X2_honest : GoodIn wsX2_dayOn (wsV RX2 71 RX2 yX2_honest wsX2_honest) := goodIn_app (goodIn_of _ (by decide +kernel)) ggX2_dayOn_X2_honest
theorem dX2_dayOn_0 : decode cX2_dayOn 0 = .ok (.iconst 0, 1) := by decide +kernel
theorem dX2_dayOn_1 : decode cX2_dayOn 1 = .ok (.istore_n 1, 1) := by decide +kernel
theorem dX2_dayOn_2 : decode cX2_dayOn 2 = .ok (.iload_n 1, 1) := by decide +kernel
theorem dX2_dayOn_3 : decode cX2_dayOn 3 = .ok (.aload_n 0, 1) := by decide +kernel
theorem dX2_dayOn_4 : decode cX2_dayOn 4 = .ok (.getfield 49, 3) := by decide +kernel
theorem dX2_dayOn_7 : decode cX2_dayOn 7 = .ok (.if_icmp .ge 44, 3) := by decide +kernel
theorem dX2_dayOn_10 : decode cX2_dayOn 10 = .ok (.aload_n 0, 1) := by decide +kernel
theorem dX2_dayOn_11 : decode cX2_dayOn 11 = .ok (.getfield 36, 3) := by decide +kernel
theorem dX2_dayOn_14 : decode cX2_dayOn 14 = .ok (.iconst 2, 1) := by decide +kernel
theorem dX2_dayOn_15 : decode cX2_dayOn 15 = .ok (.iload_n 1, 1) := by decide +kernel
theorem dX2_dayOn_16 : decode cX2_dayOn 16 = .ok (.iadd, 1) := by decide +kernel
theorem dX2_dayOn_17 : decode cX2_dayOn 17 = .ok (.sipush (-300), 3) := by decide +kernel
theorem dX2_dayOn_20 : decode cX2_dayOn 20 = .ok (.sipush 300, 3) := by decide +kernel
theorem dX2_dayOn_23 : decode cX2_dayOn 23 = .ok (.aload_n 0, 1) := by decide +kernel
theorem dX2_dayOn_24 : decode cX2_dayOn 24 = .ok (.getfield 36, 3) := by decide +kernel
theorem dX2_dayOn_27 : decode cX2_dayOn 27 = .ok (.iconst 2, 1) := by decide +kernel
theorem dX2_dayOn_28 : decode cX2_dayOn 28 = .ok (.iload_n 1, 1) := by decide +kernel
theorem dX2_dayOn_29 : decode cX2_dayOn 29 = .ok (.iadd, 1) := by decide +kernel
theorem dX2_dayOn_30 : decode cX2_dayOn 30 = .ok (.iaload, 1) := by decide +kernel
theorem dX2_dayOn_31 : decode cX2_dayOn 31 = .ok (.aload_n 0, 1) := by decide +kernel
theorem dX2_dayOn_32 : decode cX2_dayOn 32 = .ok (.getfield 30, 3) := by decide +kernel
theorem dX2_dayOn_35 : decode cX2_dayOn 35 = .ok (.iload_n 1, 1) := by decide +kernel
theorem dX2_dayOn_36 : decode cX2_dayOn 36 = .ok (.iaload, 1) := by decide +kernel
theorem dX2_dayOn_37 : decode cX2_dayOn 37 = .ok (.iadd, 1) := by decide +kernel
theorem dX2_dayOn_38 : decode cX2_dayOn 38 = .ok (.invokestatic 64, 3) := by decide +kernel
theorem dX2_dayOn_41 : decode cX2_dayOn 41 = .ok (.invokestatic 68, 3) := by decide +kernel
theorem dX2_dayOn_44 : decode cX2_dayOn 44 = .ok (.iastore, 1) := by decide +kernel
theorem dX2_dayOn_45 : decode cX2_dayOn 45 = .ok (.iinc 1 1, 3) := by decide +kernel
theorem dX2_dayOn_48 : decode cX2_dayOn 48 = .ok (.goto (-46), 3) := by decide +kernel
theorem dX2_dayOn_51 : decode cX2_dayOn 51 = .ok (.aload_n 0, 1) := by decide +kernel
theorem dX2_dayOn_52 : decode cX2_dayOn 52 = .ok (.getfield 49, 3) := by decide +kernel
theorem dX2_dayOn_55 : decode cX2_dayOn 55 = .ok (.ifCond .ne 7, 3) := by decide +kernel
theorem dX2_dayOn_58 : decode cX2_dayOn 58 = .ok (.iconst (-1), 1) := by decide +kernel
theorem dX2_dayOn_59 : decode cX2_dayOn 59 = .ok (.goto 14, 3) := by decide +kernel
theorem dX2_dayOn_62 : decode cX2_dayOn 62 = .ok (.aload_n 0, 1) := by decide +kernel
theorem dX2_dayOn_63 : decode cX2_dayOn 63 = .ok (.getfield 36, 3) := by decide +kernel
theorem dX2_dayOn_66 : decode cX2_dayOn 66 = .ok (.iconst 0, 1) := by decide +kernel
theorem dX2_dayOn_67 : decode cX2_dayOn 67 = .ok (.iaload, 1) := by decide +kernel
theorem dX2_dayOn_68 : decode cX2_dayOn 68 = .ok (.aload_n 0, 1) := by decide +kernel
theorem dX2_dayOn_69 : decode cX2_dayOn 69 = .ok (.getfield 49, 3) := by decide +kernel
theorem dX2_dayOn_72 : decode cX2_dayOn 72 = .ok (.irem, 1) := by decide +kernel
theorem dX2_dayOn_73 : decode cX2_dayOn 73 = .ok (.istore_n 1, 1) := by decide +kernel
theorem dX2_dayOn_74 : decode cX2_dayOn 74 = .ok (.aload_n 0, 1) := by decide +kernel
theorem dX2_dayOn_75 : decode cX2_dayOn 75 = .ok (.getfield 36, 3) := by decide +kernel
theorem dX2_dayOn_78 : decode cX2_dayOn 78 = .ok (.iconst 0, 1) := by decide +kernel
theorem dX2_dayOn_79 : decode cX2_dayOn 79 = .ok (.dup2, 1) := by decide +kernel
theorem dX2_dayOn_80 : decode cX2_dayOn 80 = .ok (.iaload, 1) := by decide +kernel
theorem dX2_dayOn_81 : decode cX2_dayOn 81 = .ok (.iconst 1, 1) := by decide +kernel
theorem dX2_dayOn_82 : decode cX2_dayOn 82 = .ok (.iadd, 1) := by decide +kernel
theorem dX2_dayOn_83 : decode cX2_dayOn 83 = .ok (.iastore, 1) := by decide +kernel
theorem dX2_dayOn_84 : decode cX2_dayOn 84 = .ok (.iload_n 1, 1) := by decide +kernel
theorem dX2_dayOn_85 : decode cX2_dayOn 85 = .ok (.iconst (-1), 1) := by decide +kernel
theorem dX2_dayOn_86 : decode cX2_dayOn 86 = .ok (.if_icmp .eq 11, 3) := by decide +kernel
theorem dX2_dayOn_89 : decode cX2_dayOn 89 = .ok (.aload_n 0, 1) := by decide +kernel
theorem dX2_dayOn_90 : decode cX2_dayOn 90 = .ok (.iload_n 1, 1) := by decide +kernel
theorem dX2_dayOn_91 : decode cX2_dayOn 91 = .ok (.invokevirtual 71, 3) := by decide +kernel
theorem dX2_dayOn_94 : decode cX2_dayOn 94 = .ok (.ifCond .eq 5, 3) := by decide +kernel
theorem dX2_dayOn_97 : decode cX2_dayOn 97 = .ok (.iconst (-1), 1) := by decide +kernel
theorem dX2_dayOn_98 : decode cX2_dayOn 98 = .ok (.ireturn, 1) := by decide +kernel
theorem dX2_dayOn_99 : decode cX2_dayOn 99 = .ok (.aload_n 0, 1) := by decide +kernel
theorem dX2_dayOn_100 : decode cX2_dayOn 100 = .ok (.getfield 36, 3) := by decide +kernel
theorem dX2_dayOn_103 : decode cX2_dayOn 103 = .ok (.iconst 1, 1) := by decide +kernel
theorem dX2_dayOn_104 : decode cX2_dayOn 104 = .ok (.dup2, 1) := by decide +kernel
theorem dX2_dayOn_105 : decode cX2_dayOn 105 = .ok (.iaload, 1) := by decide +kernel
theorem dX2_dayOn_106 : decode cX2_dayOn 106 = .ok (.aload_n 0, 1) := by decide +kernel
theorem dX2_dayOn_107 : decode cX2_dayOn 107 = .ok (.getfield 36, 3) := by decide +kernel
theorem dX2_dayOn_110 : decode cX2_dayOn 110 = .ok (.iconst 2, 1) := by decide +kernel
theorem dX2_dayOn_111 : decode cX2_dayOn 111 = .ok (.iload_n 1, 1) := by decide +kernel
theorem dX2_dayOn_112 : decode cX2_dayOn 112 = .ok (.iadd, 1) := by decide +kernel
theorem dX2_dayOn_113 : decode cX2_dayOn 113 = .ok (.iaload, 1) := by decide +kernel
theorem dX2_dayOn_114 : decode cX2_dayOn 114 = .ok (.invokestatic 58, 3) := by decide +kernel
theorem dX2_dayOn_117 : decode cX2_dayOn 117 = .ok (.iadd, 1) := by decide +kernel
theorem dX2_dayOn_118 : decode cX2_dayOn 118 = .ok (.iastore, 1) := by decide +kernel
theorem dX2_dayOn_119 : decode cX2_dayOn 119 = .ok (.aload_n 0, 1) := by decide +kernel
theorem dX2_dayOn_120 : decode cX2_dayOn 120 = .ok (.getfield 36, 3) := by decide +kernel
theorem dX2_dayOn_123 : decode cX2_dayOn 123 = .ok (.iconst 2, 1) := by decide +kernel
theorem dX2_dayOn_124 : decode cX2_dayOn 124 = .ok (.iload_n 1, 1) := by decide +kernel
theorem dX2_dayOn_125 : decode cX2_dayOn 125 = .ok (.iadd, 1) := by decide +kernel
theorem dX2_dayOn_126 : decode cX2_dayOn 126 = .ok (.iconst 0, 1) := by decide +kernel
theorem dX2_dayOn_127 : decode cX2_dayOn 127 = .ok (.iastore, 1) := by decide +kernel
theorem dX2_dayOn_128 : decode cX2_dayOn 128 = .ok (.iload_n 1, 1) := by decide +kernel
theorem dX2_dayOn_129 : decode cX2_dayOn 129 = .ok (.ireturn, 1) := by decide +kernel
set_option maxRecDepth 20000 in
theorem ggX2_daysOn_X2_dayOn : GoodIn wsX2_daysOn wsX2_dayOn := goodIn_r _ [5, 6, 7, 8, 9, 10, 11, 12, 13, 14, 15, 16, 17, 18, 19, 20, 21, 4, 22, 23, 24, 25, 26, 27, 28, 29, 30, 31, 32, 33, 34, 35, 36, 37] (by decide +kernel) (by decide +kernel)
set_option maxRecDepth 20000 in
theorem gX2_daysOn_X2_dayOn : GoodIn wsX2_daysOn (wsV RX2 75 RX2 yX2_dayOn wsX2_dayOn) := goodIn_app (goodIn_of _ (by decide +kernel)) ggX2_daysOn_X2_dayOn
theorem dX2_daysOn_0 : decode cX2_daysOn 0 = .ok (.iconst 0, 1) := by decide +kernel
theorem dX2_daysOn_1 : decode cX2_daysOn 1 = .ok (.istore_n 2, 1) := by decide +kernel
theorem dX2_daysOn_2 : decode cX2_daysOn 2 = .ok (.iload_n 2, 1) := by decide +kernel
theorem dX2_daysOn_3 : decode cX2_daysOn 3 = .ok (.iload_n 1, 1) := by decide +kernel
theorem dX2_daysOn_4 : decode cX2_daysOn 4 = .ok (.if_icmp .ge 14, 3) := by decide +kernel
theorem dX2_daysOn_7 : decode cX2_daysOn 7 = .ok (.aload_n 0, 1) := by decide +kernel
theorem dX2_daysOn_8 : decode cX2_daysOn 8 = .ok (.invokevirtual 75, 3) := by decide +kernel
theorem dX2_daysOn_11 : decode cX2_daysOn 11 = .ok (.pop, 1) := by decide +kernel
theorem dX2_daysOn_12 : decode cX2_daysOn 12 = .ok (.iinc 2 1, 3) := by decide +kernel
theorem dX2_daysOn_15 : decode cX2_daysOn 15 = .ok (.goto (-13), 3) := by decide +kernel
theorem dX2_daysOn_18 : decode cX2_daysOn 18 = .ok (.return_, 1) := by decide +kernel
set_option maxRecDepth 20000 in
theorem ggX2_addMeasure_X2_isMeasure : GoodIn wsX2_addMeasure wsX2_isMeasure := goodIn_r _ [10, 2, 11, 12, 9, 13, 24, 25, 26, 27, 28, 29, 30, 31, 32, 33, 34, 35, 36, 37] (by decide +kernel) (by decide +kernel)
set_option maxRecDepth 20000 in
theorem gX2_addMeasure_X2_isMeasure : GoodIn wsX2_addMeasure (wsV RX2 79 RX2 yX2_isMeasure wsX2_isMeasure) := goodIn_app (goodIn_of _ (by decide +kernel)) ggX2_addMeasure_X2_isMeasure
set_option maxRecDepth 20000 in
theorem ggX2_addMeasure_X2_fail : GoodIn wsX2_addMeasure wsX2_fail := goodIn_r _ [17, 1, 24, 25, 26, 27, 28, 29, 30, 31, 32, 33, 34, 35, 36, 37] (by decide +kernel) (by decide +kernel)
set_option maxRecDepth 20000 in
theorem gX2_addMeasure_X2_fail : GoodIn wsX2_addMeasure (wsV RX2 82 RX2 yX2_fail wsX2_fail) := goodIn_app (goodIn_of _ (by decide +kernel)) ggX2_addMeasure_X2_fail
set_option maxRecDepth 20000 in
theorem ggX2_addMeasure_X2_isIn : GoodIn wsX2_addMeasure wsX2_isIn := goodIn_r _ [13] (by decide +kernel) (by decide +kernel)
set_option maxRecDepth 20000 in
theorem gX2_addMeasure_X2_isIn : GoodIn wsX2_addMeasure (va_wsS RX2 45 yX2_isIn wsX2_isIn) := goodIn_app (goodIn_of _ (by decide +kernel)) ggX2_addMeasure_X2_isIn
set_option maxRecDepth 20000 in
theorem ggX2_addMeasure_X2_lay : GoodIn wsX2_addMeasure wsX2_lay := goodIn_r _ [21, 2, 5, 22, 3, 4, 23, 24, 25, 26, 27, 28, 29, 30, 31, 32, 33, 34, 35, 36, 37] (by decide +kernel) (by decide +kernel)
set_option maxRecDepth 20000 in
theorem gX2_addMeasure_X2_lay : GoodIn wsX2_addMeasure (wsV RX2 85 RX2 yX2_lay wsX2_lay) := goodIn_app (goodIn_of _ (by decide +kernel)) ggX2_addMeasure_X2_lay
theorem dX2_addMeasure_0 : decode cX2_addMeasure 0 = .ok (.aload_n 0, 1) := by decide +kernel
theorem dX2_addMeasure_1 : decode cX2_addMeasure 1 = .ok (.iconst 0, 1) := by decide +kernel
theorem dX2_addMeasure_2 : decode cX2_addMeasure 2 = .ok (.putfield 42, 3) := by decide +kernel
theorem dX2_addMeasure_5 : decode cX2_addMeasure 5 = .ok (.aload_n 0, 1) := by decide +kernel
theorem dX2_addMeasure_6 : decode cX2_addMeasure 6 = .ok (.iload_n 1, 1) := by decide +kernel
theorem dX2_addMeasure_7 : decode cX2_addMeasure 7 = .ok (.invokevirtual 79, 3) := by decide +kernel
theorem dX2_addMeasure_10 : decode cX2_addMeasure 10 = .ok (.ifCond .ne 9, 3) := by decide +kernel
theorem dX2_addMeasure_13 : decode cX2_addMeasure 13 = .ok (.aload_n 0, 1) := by decide +kernel
theorem dX2_addMeasure_14 : decode cX2_addMeasure 14 = .ok (.iconst 1, 1) := by decide +kernel
theorem dX2_addMeasure_15 : decode cX2_addMeasure 15 = .ok (.invokevirtual 82, 3) := by decide +kernel
theorem dX2_addMeasure_18 : decode cX2_addMeasure 18 = .ok (.ireturn, 1) := by decide +kernel
theorem dX2_addMeasure_19 : decode cX2_addMeasure 19 = .ok (.iload_n 2, 1) := by decide +kernel
theorem dX2_addMeasure_20 : decode cX2_addMeasure 20 = .ok (.iconst 1, 1) := by decide +kernel
theorem dX2_addMeasure_21 : decode cX2_addMeasure 21 = .ok (.bipush 9, 2) := by decide +kernel
theorem dX2_addMeasure_23 : decode cX2_addMeasure 23 = .ok (.invokestatic 45, 3) := by decide +kernel
theorem dX2_addMeasure_26 : decode cX2_addMeasure 26 = .ok (.ifCond .eq 13, 3) := by decide +kernel
theorem dX2_addMeasure_29 : decode cX2_addMeasure 29 = .ok (.iload_n 3, 1) := by decide +kernel
theorem dX2_addMeasure_30 : decode cX2_addMeasure 30 = .ok (.iconst 1, 1) := by decide +kernel
theorem dX2_addMeasure_31 : decode cX2_addMeasure 31 = .ok (.bipush 9, 2) := by decide +kernel
theorem dX2_addMeasure_33 : decode cX2_addMeasure 33 = .ok (.invokestatic 45, 3) := by decide +kernel
theorem dX2_addMeasure_36 : decode cX2_addMeasure 36 = .ok (.ifCond .ne 9, 3) := by decide +kernel
theorem dX2_addMeasure_39 : decode cX2_addMeasure 39 = .ok (.aload_n 0, 1) := by decide +kernel
theorem dX2_addMeasure_40 : decode cX2_addMeasure 40 = .ok (.iconst 2, 1) := by decide +kernel
theorem dX2_addMeasure_41 : decode cX2_addMeasure 41 = .ok (.invokevirtual 82, 3) := by decide +kernel
theorem dX2_addMeasure_44 : decode cX2_addMeasure 44 = .ok (.ireturn, 1) := by decide +kernel
theorem dX2_addMeasure_45 : decode cX2_addMeasure 45 = .ok (.aload_n 0, 1) := by decide +kernel
theorem dX2_addMeasure_46 : decode cX2_addMeasure 46 = .ok (.getfield 7, 3) := by decide +kernel
theorem dX2_addMeasure_49 : decode cX2_addMeasure 49 = .ok (.bipush 8, 2) := by decide +kernel
theorem dX2_addMeasure_51 : decode cX2_addMeasure 51 = .ok (.if_icmp .ne 9, 3) := by decide +kernel
theorem dX2_addMeasure_54 : decode cX2_addMeasure 54 = .ok (.aload_n 0, 1) := by decide +kernel
theorem dX2_addMeasure_55 : decode cX2_addMeasure 55 = .ok (.iconst 3, 1) := by decide +kernel
theorem dX2_addMeasure_56 : decode cX2_addMeasure 56 = .ok (.invokevirtual 82, 3) := by decide +kernel
theorem dX2_addMeasure_59 : decode cX2_addMeasure 59 = .ok (.ireturn, 1) := by decide +kernel
theorem dX2_addMeasure_60 : decode cX2_addMeasure 60 = .ok (.aload_n 0, 1) := by decide +kernel
theorem dX2_addMeasure_61 : decode cX2_addMeasure 61 = .ok (.getfield 13, 3) := by decide +kernel
theorem dX2_addMeasure_64 : decode cX2_addMeasure 64 = .ok (.aload_n 0, 1) := by decide +kernel
theorem dX2_addMeasure_65 : decode cX2_addMeasure 65 = .ok (.getfield 7, 3) := by decide +kernel
theorem dX2_addMeasure_68 : decode cX2_addMeasure 68 = .ok (.iload_n 1, 1) := by decide +kernel
theorem dX2_addMeasure_69 : decode cX2_addMeasure 69 = .ok (.iastore, 1) := by decide +kernel
theorem dX2_addMeasure_70 : decode cX2_addMeasure 70 = .ok (.aload_n 0, 1) := by decide +kernel
theorem dX2_addMeasure_71 : decode cX2_addMeasure 71 = .ok (.getfield 17, 3) := by decide +kernel
theorem dX2_addMeasure_74 : decode cX2_addMeasure 74 = .ok (.aload_n 0, 1) := by decide +kernel
theorem dX2_addMeasure_75 : decode cX2_addMeasure 75 = .ok (.getfield 7, 3) := by decide +kernel
theorem dX2_addMeasure_78 : decode cX2_addMeasure 78 = .ok (.iload_n 2, 1) := by decide +kernel
theorem dX2_addMeasure_79 : decode cX2_addMeasure 79 = .ok (.iastore, 1) := by decide +kernel
theorem dX2_addMeasure_80 : decode cX2_addMeasure 80 = .ok (.aload_n 0, 1) := by decide +kernel
theorem dX2_addMeasure_81 : decode cX2_addMeasure 81 = .ok (.getfield 20, 3) := by decide +kernel
theorem dX2_addMeasure_84 : decode cX2_addMeasure 84 = .ok (.aload_n 0, 1) := by decide +kernel
theorem dX2_addMeasure_85 : decode cX2_addMeasure 85 = .ok (.getfield 7, 3) := by decide +kernel
theorem dX2_addMeasure_88 : decode cX2_addMeasure 88 = .ok (.iload_n 3, 1) := by decide +kernel
theorem dX2_addMeasure_89 : decode cX2_addMeasure 89 = .ok (.iastore, 1) := by decide +kernel
theorem dX2_addMeasure_90 : decode cX2_addMeasure 90 = .ok (.aload_n 0, 1) := by decide +kernel
theorem dX2_addMeasure_91 : decode cX2_addMeasure 91 = .ok (.dup, 1) := by decide +kernel
theorem dX2_addMeasure_92 : decode cX2_addMeasure 92 = .ok (.getfield 7, 3) := by decide +kernel
theorem dX2_addMeasure_95 : decode cX2_addMeasure 95 = .ok (.iconst 1, 1) := by decide +kernel
theorem dX2_addMeasure_96 : decode cX2_addMeasure 96 = .ok (.iadd, 1) := by decide +kernel
theorem dX2_addMeasure_97 : decode cX2_addMeasure 97 = .ok (.putfield 7, 3) := by decide +kernel
theorem dX2_addMeasure_100 : decode cX2_addMeasure 100 = .ok (.aload_n 0, 1) := by decide +kernel
theorem dX2_addMeasure_101 : decode cX2_addMeasure 101 = .ok (.invokevirtual 85, 3) := by decide +kernel
theorem dX2_addMeasure_104 : decode cX2_addMeasure 104 = .ok (.aload_n 0, 1) := by decide +kernel
theorem dX2_addMeasure_105 : decode cX2_addMeasure 105 = .ok (.getfield 7, 3) := by decide +kernel
theorem dX2_addMeasure_108 : decode cX2_addMeasure 108 = .ok (.iconst 1, 1) := by decide +kernel
theorem dX2_addMeasure_109 : decode cX2_addMeasure 109 = .ok (.isub, 1) := by decide +kernel
theorem dX2_addMeasure_110 : decode cX2_addMeasure 110 = .ok (.ireturn, 1) := by decide +kernel
set_option maxRecDepth 20000 in
theorem ggX2_setStandard_X2_isMeasure : GoodIn wsX2_setStandard wsX2_isMeasure := goodIn_r _ [7, 8, 9, 10, 6, 11, 16, 17, 18, 19, 20, 21, 22, 23, 24, 25, 26, 27, 28, 29] (by decide +kernel) (by decide +kernel)
set_option maxRecDepth 20000 in
theorem gX2_setStandard_X2_isMeasure : GoodIn wsX2_setStandard (wsV RX2 79 RX2 yX2_isMeasure wsX2_isMeasure) := goodIn_app (goodIn_of _ (by decide +kernel)) ggX2_setStandard_X2_isMeasure
set_option maxRecDepth 20000 in
theorem ggX2_setStandard_X2_fail : GoodIn wsX2_setStandard wsX2_fail := goodIn_r _ [15, 1, 16, 17, 18, 19, 20, 21, 22, 23, 24, 25, 26, 27, 28, 29] (by decide +kernel) (by decide +kernel)
set_option maxRecDepth 20000 in
theorem gX2_setStandard_X2_fail : GoodIn wsX2_setStandard (wsV RX2 82 RX2 yX2_fail wsX2_fail) := goodIn_app (goodIn_of _ (by decide +kernel)) ggX2_setStandard_X2_fail
theorem dX2_setStandard_0 : decode cX2_setStandard 0 = .ok (.aload_n 0, 1) := by decide +kernel
theorem dX2_setStandard_1 : decode cX2_setStandard 1 = .ok (.iconst 0, 1) := by decide +kernel
theorem dX2_setStandard_2 : decode cX2_setStandard 2 = .ok (.putfield 42, 3) := by decide +kernel
theorem dX2_setStandard_5 : decode cX2_setStandard 5 = .ok (.aload_n 0, 1) := by decide +kernel
theorem dX2_setStandard_6 : decode cX2_setStandard 6 = .ok (.iload_n 1, 1) := by decide +kernel
theorem dX2_setStandard_7 : decode cX2_setStandard 7 = .ok (.invokevirtual 79, 3) := by decide +kernel
theorem dX2_setStandard_10 : decode cX2_setStandard 10 = .ok (.ifCond .ne 9, 3) := by decide +kernel
theorem dX2_setStandard_13 : decode cX2_setStandard 13 = .ok (.aload_n 0, 1) := by decide +kernel
theorem dX2_setStandard_14 : decode cX2_setStandard 14 = .ok (.iconst 1, 1) := by decide +kernel
theorem dX2_setStandard_15 : decode cX2_setStandard 15 = .ok (.invokevirtual 82, 3) := by decide +kernel
theorem dX2_setStandard_18 : decode cX2_setStandard 18 = .ok (.ireturn, 1) := by decide +kernel
theorem dX2_setStandard_19 : decode cX2_setStandard 19 = .ok (.aload_n 0, 1) := by decide +kernel
theorem dX2_setStandard_20 : decode cX2_setStandard 20 = .ok (.getfield 88, 3) := by decide +kernel
theorem dX2_setStandard_23 : decode cX2_setStandard 23 = .ok (.istore_n 2, 1) := by decide +kernel
theorem dX2_setStandard_24 : decode cX2_setStandard 24 = .ok (.aload_n 0, 1) := by decide +kernel
theorem dX2_setStandard_25 : decode cX2_setStandard 25 = .ok (.iload_n 1, 1) := by decide +kernel
theorem dX2_setStandard_26 : decode cX2_setStandard 26 = .ok (.putfield 88, 3) := by decide +kernel
theorem dX2_setStandard_29 : decode cX2_setStandard 29 = .ok (.iload_n 2, 1) := by decide +kernel
theorem dX2_setStandard_30 : decode cX2_setStandard 30 = .ok (.ireturn, 1) := by decide +kernel
set_option maxRecDepth 20000 in
theorem ggX2_addStall_X2_isIn : GoodIn wsX2_addStall wsX2_isIn := goodIn_r _ [7] (by decide +kernel) (by decide +kernel)
set_option maxRecDepth 20000 in
theorem gX2_addStall_X2_isIn : GoodIn wsX2_addStall (va_wsS RX2 45 yX2_isIn wsX2_isIn) := goodIn_app (goodIn_of _ (by decide +kernel)) ggX2_addStall_X2_isIn
set_option maxRecDepth 20000 in
theorem ggX2_addStall_X2_fail : GoodIn wsX2_addStall wsX2_fail := goodIn_r _ [11, 1, 12, 13, 14, 15, 16, 17, 18, 19, 20, 21, 22, 23, 24, 25] (by decide +kernel) (by decide +kernel)
set_option maxRecDepth 20000 in
theorem gX2_addStall_X2_fail : GoodIn wsX2_addStall (wsV RX2 82 RX2 yX2_fail wsX2_fail) := goodIn_app (goodIn_of _ (by decide +kernel)) ggX2_addStall_X2_fail
theorem dX2_addStall_0 : decode cX2_addStall 0 = .ok (.aload_n 0, 1) := by decide +kernel
theorem dX2_addStall_1 : decode cX2_addStall 1 = .ok (.iconst 0, 1) := by decide +kernel
theorem dX2_addStall_2 : decode cX2_addStall 2 = .ok (.putfield 42, 3) := by decide +kernel
theorem dX2_addStall_5 : decode cX2_addStall 5 = .ok (.iload_n 1, 1) := by decide +kernel
theorem dX2_addStall_6 : decode cX2_addStall 6 = .ok (.bipush (-9), 2) := by decide +kernel
theorem dX2_addStall_8 : decode cX2_addStall 8 = .ok (.bipush 9, 2) := by decide +kernel
theorem dX2_addStall_10 : decode cX2_addStall 10 = .ok (.invokestatic 45, 3) := by decide +kernel
theorem dX2_addStall_13 : decode cX2_addStall 13 = .ok (.ifCond .ne 9, 3) := by decide +kernel
theorem dX2_addStall_16 : decode cX2_addStall 16 = .ok (.aload_n 0, 1) := by decide +kernel
theorem dX2_addStall_17 : decode cX2_addStall 17 = .ok (.iconst 1, 1) := by decide +kernel
theorem dX2_addStall_18 : decode cX2_addStall 18 = .ok (.invokevirtual 82, 3) := by decide +kernel
theorem dX2_addStall_21 : decode cX2_addStall 21 = .ok (.ireturn, 1) := by decide +kernel
theorem dX2_addStall_22 : decode cX2_addStall 22 = .ok (.aload_n 0, 1) := by decide +kernel
theorem dX2_addStall_23 : decode cX2_addStall 23 = .ok (.getfield 49, 3) := by decide +kernel
theorem dX2_addStall_26 : decode cX2_addStall 26 = .ok (.bipush 6, 2) := by decide +kernel
theorem dX2_addStall_28 : decode cX2_addStall 28 = .ok (.if_icmp .ne 9, 3) := by decide +kernel
theorem dX2_addStall_31 : decode cX2_addStall 31 = .ok (.aload_n 0, 1) := by decide +kernel
theorem dX2_addStall_32 : decode cX2_addStall 32 = .ok (.iconst 2, 1) := by decide +kernel
theorem dX2_addStall_33 : decode cX2_addStall 33 = .ok (.invokevirtual 82, 3) := by decide +kernel
theorem dX2_addStall_36 : decode cX2_addStall 36 = .ok (.ireturn, 1) := by decide +kernel
theorem dX2_addStall_37 : decode cX2_addStall 37 = .ok (.aload_n 0, 1) := by decide +kernel
theorem dX2_addStall_38 : decode cX2_addStall 38 = .ok (.getfield 30, 3) := by decide +kernel
theorem dX2_addStall_41 : decode cX2_addStall 41 = .ok (.aload_n 0, 1) := by decide +kernel
theorem dX2_addStall_42 : decode cX2_addStall 42 = .ok (.getfield 49, 3) := by decide +kernel
theorem dX2_addStall_45 : decode cX2_addStall 45 = .ok (.iload_n 1, 1) := by decide +kernel
theorem dX2_addStall_46 : decode cX2_addStall 46 = .ok (.iastore, 1) := by decide +kernel
theorem dX2_addStall_47 : decode cX2_addStall 47 = .ok (.aload_n 0, 1) := by decide +kernel
theorem dX2_addStall_48 : decode cX2_addStall 48 = .ok (.dup, 1) := by decide +kernel
theorem dX2_addStall_49 : decode cX2_addStall 49 = .ok (.getfield 49, 3) := by decide +kernel
theorem dX2_addStall_52 : decode cX2_addStall 52 = .ok (.iconst 1, 1) := by decide +kernel
theorem dX2_addStall_53 : decode cX2_addStall 53 = .ok (.iadd, 1) := by decide +kernel
theorem dX2_addStall_54 : decode cX2_addStall 54 = .ok (.putfield 49, 3) := by decide +kernel
theorem dX2_addStall_57 : decode cX2_addStall 57 = .ok (.aload_n 0, 1) := by decide +kernel
theorem dX2_addStall_58 : decode cX2_addStall 58 = .ok (.getfield 49, 3) := by decide +kernel
theorem dX2_addStall_61 : decode cX2_addStall 61 = .ok (.iconst 1, 1) := by decide +kernel
theorem dX2_addStall_62 : decode cX2_addStall 62 = .ok (.isub, 1) := by decide +kernel
theorem dX2_addStall_63 : decode cX2_addStall 63 = .ok (.ireturn, 1) := by decide +kernel
set_option maxRecDepth 20000 in
theorem ggX2_setWear_X2_isStall : GoodIn wsX2_setWear wsX2_isStall := goodIn_r _ [7, 8, 9, 10, 6, 11, 16, 17, 18, 19, 20, 21, 22, 23, 24, 25, 26, 27, 28, 29] (by decide +kernel) (by decide +kernel)
set_option maxRecDepth 20000 in
theorem gX2_setWear_X2_isStall : GoodIn wsX2_setWear (wsV RX2 91 RX2 yX2_isStall wsX2_isStall) := goodIn_app (goodIn_of _ (by decide +kernel)) ggX2_setWear_X2_isStall
set_option maxRecDepth 20000 in
theorem ggX2_setWear_X2_fail : GoodIn wsX2_setWear wsX2_fail := goodIn_r _ [15, 1, 16, 17, 18, 19, 20, 21, 22, 23, 24, 25, 26, 27, 28, 29] (by decide +kernel) (by decide +kernel)
set_option maxRecDepth 20000 in
theorem gX2_setWear_X2_fail : GoodIn wsX2_setWear (wsV RX2 82 RX2 yX2_fail wsX2_fail) := goodIn_app (goodIn_of _ (by decide +kernel)) ggX2_setWear_X2_fail
set_option maxRecDepth 20000 in
theorem ggX2_setWear_X2_isIn : GoodIn wsX2_setWear wsX2_isIn := goodIn_r _ [11] (by decide +kernel) (by decide +kernel)
set_option maxRecDepth 20000 in
theorem gX2_setWear_X2_isIn : GoodIn wsX2_setWear (va_wsS RX2 45 yX2_isIn wsX2_isIn) := goodIn_app (goodIn_of _ (by decide +kernel)) ggX2_setWear_X2_isIn
theorem dX2_setWear_0 : decode cX2_setWear 0 = .ok (.aload_n 0, 1) := by decide +kernel
theorem dX2_setWear_1 : decode cX2_setWear 1 = .ok (.iconst 0, 1) := by decide +kernel
theorem dX2_setWear_2 : decode cX2_setWear 2 = .ok (.putfield 42, 3) := by decide +kernel
theorem dX2_setWear_5 : decode cX2_setWear 5 = .ok (.aload_n 0, 1) := by decide +kernel
theorem dX2_setWear_6 : decode cX2_setWear 6 = .ok (.iload_n 1, 1) := by decide +kernel
theorem dX2_setWear_7 : decode cX2_setWear 7 = .ok (.invokevirtual 91, 3) := by decide +kernel
theorem dX2_setWear_10 : decode cX2_setWear 10 = .ok (.ifCond .ne 9, 3) := by decide +kernel
theorem dX2_setWear_13 : decode cX2_setWear 13 = .ok (.aload_n 0, 1) := by decide +kernel
theorem dX2_setWear_14 : decode cX2_setWear 14 = .ok (.iconst 1, 1) := by decide +kernel
theorem dX2_setWear_15 : decode cX2_setWear 15 = .ok (.invokevirtual 82, 3) := by decide +kernel
theorem dX2_setWear_18 : decode cX2_setWear 18 = .ok (.ireturn, 1) := by decide +kernel
theorem dX2_setWear_19 : decode cX2_setWear 19 = .ok (.iload_n 2, 1) := by decide +kernel
theorem dX2_setWear_20 : decode cX2_setWear 20 = .ok (.bipush (-9), 2) := by decide +kernel
theorem dX2_setWear_22 : decode cX2_setWear 22 = .ok (.bipush 9, 2) := by decide +kernel
theorem dX2_setWear_24 : decode cX2_setWear 24 = .ok (.invokestatic 45, 3) := by decide +kernel
theorem dX2_setWear_27 : decode cX2_setWear 27 = .ok (.ifCond .ne 9, 3) := by decide +kernel
theorem dX2_setWear_30 : decode cX2_setWear 30 = .ok (.aload_n 0, 1) := by decide +kernel
theorem dX2_setWear_31 : decode cX2_setWear 31 = .ok (.iconst 2, 1) := by decide +kernel
theorem dX2_setWear_32 : decode cX2_setWear 32 = .ok (.invokevirtual 82, 3) := by decide +kernel
theorem dX2_setWear_35 : decode cX2_setWear 35 = .ok (.ireturn, 1) := by decide +kernel
theorem dX2_setWear_36 : decode cX2_setWear 36 = .ok (.aload_n 0, 1) := by decide +kernel
theorem dX2_setWear_37 : decode cX2_setWear 37 = .ok (.getfield 30, 3) := by decide +kernel
theorem dX2_setWear_40 : decode cX2_setWear 40 = .ok (.iload_n 1, 1) := by decide +kernel
theorem dX2_setWear_41 : decode cX2_setWear 41 = .ok (.iaload, 1) := by decide +kernel
theorem dX2_setWear_42 : decode cX2_setWear 42 = .ok (.istore_n 3, 1) := by decide +kernel
theorem dX2_setWear_43 : decode cX2_setWear 43 = .ok (.aload_n 0, 1) := by decide +kernel
theorem dX2_setWear_44 : decode cX2_setWear 44 = .ok (.getfield 30, 3) := by decide +kernel
theorem dX2_setWear_47 : decode cX2_setWear 47 = .ok (.iload_n 1, 1) := by decide +kernel
theorem dX2_setWear_48 : decode cX2_setWear 48 = .ok (.iload_n 2, 1) := by decide +kernel
theorem dX2_setWear_49 : decode cX2_setWear 49 = .ok (.iastore, 1) := by decide +kernel
theorem dX2_setWear_50 : decode cX2_setWear 50 = .ok (.iload_n 3, 1) := by decide +kernel
theorem dX2_setWear_51 : decode cX2_setWear 51 = .ok (.ireturn, 1) := by decide +kernel
set_option maxRecDepth 20000 in
theorem ggX2_seal_X2_isStall : GoodIn wsX2_seal wsX2_isStall := goodIn_r _ [7, 8, 9, 10, 6, 11, 16, 17, 18, 19, 20, 21, 22, 23, 24, 25, 26, 27, 28, 29] (by decide +kernel) (by decide +kernel)
set_option maxRecDepth 20000 in
theorem gX2_seal_X2_isStall : GoodIn wsX2_seal (wsV RX2 91 RX2 yX2_isStall wsX2_isStall) := goodIn_app (goodIn_of _ (by decide +kernel)) ggX2_seal_X2_isStall
set_option maxRecDepth 20000 in
theorem ggX2_seal_X2_fail : GoodIn wsX2_seal wsX2_fail := goodIn_r _ [15, 1, 16, 17, 18, 19, 20, 21, 22, 23, 24, 25, 26, 27, 28, 29] (by decide +kernel) (by decide +kernel)
set_option maxRecDepth 20000 in
theorem gX2_seal_X2_fail : GoodIn wsX2_seal (wsV RX2 82 RX2 yX2_fail wsX2_fail) := goodIn_app (goodIn_of _ (by decide +kernel)) ggX2_seal_X2_fail
theorem dX2_seal_0 : decode cX2_seal 0 = .ok (.aload_n 0, 1) := by decide +kernel
theorem dX2_seal_1 : decode cX2_seal 1 = .ok (.iconst 0, 1) := by decide +kernel
theorem dX2_seal_2 : decode cX2_seal 2 = .ok (.putfield 42, 3) := by decide +kernel
theorem dX2_seal_5 : decode cX2_seal 5 = .ok (.aload_n 0, 1) := by decide +kernel
theorem dX2_seal_6 : decode cX2_seal 6 = .ok (.iload_n 1, 1) := by decide +kernel
theorem dX2_seal_7 : decode cX2_seal 7 = .ok (.invokevirtual 91, 3) := by decide +kernel
theorem dX2_seal_10 : decode cX2_seal 10 = .ok (.ifCond .ne 9, 3) := by decide +kernel
theorem dX2_seal_13 : decode cX2_seal 13 = .ok (.aload_n 0, 1) := by decide +kernel
theorem dX2_seal_14 : decode cX2_seal 14 = .ok (.iconst 1, 1) := by decide +kernel
theorem dX2_seal_15 : decode cX2_seal 15 = .ok (.invokevirtual 82, 3) := by decide +kernel
theorem dX2_seal_18 : decode cX2_seal 18 = .ok (.ireturn, 1) := by decide +kernel
theorem dX2_seal_19 : decode cX2_seal 19 = .ok (.aload_n 0, 1) := by decide +kernel
theorem dX2_seal_20 : decode cX2_seal 20 = .ok (.getfield 36, 3) := by decide +kernel
theorem dX2_seal_23 : decode cX2_seal 23 = .ok (.iconst 2, 1) := by decide +kernel
theorem dX2_seal_24 : decode cX2_seal 24 = .ok (.iload_n 1, 1) := by decide +kernel
theorem dX2_seal_25 : decode cX2_seal 25 = .ok (.iadd, 1) := by decide +kernel
theorem dX2_seal_26 : decode cX2_seal 26 = .ok (.iaload, 1) := by decide +kernel
theorem dX2_seal_27 : decode cX2_seal 27 = .ok (.istore_n 2, 1) := by decide +kernel
theorem dX2_seal_28 : decode cX2_seal 28 = .ok (.aload_n 0, 1) := by decide +kernel
theorem dX2_seal_29 : decode cX2_seal 29 = .ok (.getfield 36, 3) := by decide +kernel
theorem dX2_seal_32 : decode cX2_seal 32 = .ok (.iconst 2, 1) := by decide +kernel
theorem dX2_seal_33 : decode cX2_seal 33 = .ok (.iload_n 1, 1) := by decide +kernel
theorem dX2_seal_34 : decode cX2_seal 34 = .ok (.iadd, 1) := by decide +kernel
theorem dX2_seal_35 : decode cX2_seal 35 = .ok (.iconst 0, 1) := by decide +kernel
theorem dX2_seal_36 : decode cX2_seal 36 = .ok (.iastore, 1) := by decide +kernel
theorem dX2_seal_37 : decode cX2_seal 37 = .ok (.iload_n 2, 1) := by decide +kernel
theorem dX2_seal_38 : decode cX2_seal 38 = .ok (.ireturn, 1) := by decide +kernel
set_option maxRecDepth 20000 in
theorem ggX2_setTolerance_X2_isIn : GoodIn wsX2_setTolerance wsX2_isIn := goodIn_r _ [6] (by decide +kernel) (by decide +kernel)
set_option maxRecDepth 20000 in
theorem gX2_setTolerance_X2_isIn : GoodIn wsX2_setTolerance (va_wsS RX2 45 yX2_isIn wsX2_isIn) := goodIn_app (goodIn_of _ (by decide +kernel)) ggX2_setTolerance_X2_isIn
set_option maxRecDepth 20000 in
theorem ggX2_setTolerance_X2_fail : GoodIn wsX2_setTolerance wsX2_fail := goodIn_r _ [10, 1, 11, 12, 13, 14, 15, 16, 17, 18, 19, 20, 21, 22, 23, 24] (by decide +kernel) (by decide +kernel)
set_option maxRecDepth 20000 in
theorem gX2_setTolerance_X2_fail : GoodIn wsX2_setTolerance (wsV RX2 82 RX2 yX2_fail wsX2_fail) := goodIn_app (goodIn_of _ (by decide +kernel)) ggX2_setTolerance_X2_fail
theorem dX2_setTolerance_0 : decode cX2_setTolerance 0 = .ok (.aload_n 0, 1) := by decide +kernel
theorem dX2_setTolerance_1 : decode cX2_setTolerance 1 = .ok (.iconst 0, 1) := by decide +kernel
theorem dX2_setTolerance_2 : decode cX2_setTolerance 2 = .ok (.putfield 42, 3) := by decide +kernel
theorem dX2_setTolerance_5 : decode cX2_setTolerance 5 = .ok (.iload_n 1, 1) := by decide +kernel
theorem dX2_setTolerance_6 : decode cX2_setTolerance 6 = .ok (.iconst 0, 1) := by decide +kernel
theorem dX2_setTolerance_7 : decode cX2_setTolerance 7 = .ok (.bipush 100, 2) := by decide +kernel
theorem dX2_setTolerance_9 : decode cX2_setTolerance 9 = .ok (.invokestatic 45, 3) := by decide +kernel
theorem dX2_setTolerance_12 : decode cX2_setTolerance 12 = .ok (.ifCond .ne 9, 3) := by decide +kernel
theorem dX2_setTolerance_15 : decode cX2_setTolerance 15 = .ok (.aload_n 0, 1) := by decide +kernel
theorem dX2_setTolerance_16 : decode cX2_setTolerance 16 = .ok (.iconst 1, 1) := by decide +kernel
theorem dX2_setTolerance_17 : decode cX2_setTolerance 17 = .ok (.invokevirtual 82, 3) := by decide +kernel
theorem dX2_setTolerance_20 : decode cX2_setTolerance 20 = .ok (.ireturn, 1) := by decide +kernel
theorem dX2_setTolerance_21 : decode cX2_setTolerance 21 = .ok (.aload_n 0, 1) := by decide +kernel
theorem dX2_setTolerance_22 : decode cX2_setTolerance 22 = .ok (.getfield 33, 3) := by decide +kernel
theorem dX2_setTolerance_25 : decode cX2_setTolerance 25 = .ok (.istore_n 2, 1) := by decide +kernel
theorem dX2_setTolerance_26 : decode cX2_setTolerance 26 = .ok (.aload_n 0, 1) := by decide +kernel
theorem dX2_setTolerance_27 : decode cX2_setTolerance 27 = .ok (.iload_n 1, 1) := by decide +kernel
theorem dX2_setTolerance_28 : decode cX2_setTolerance 28 = .ok (.putfield 33, 3) := by decide +kernel
theorem dX2_setTolerance_31 : decode cX2_setTolerance 31 = .ok (.iload_n 2, 1) := by decide +kernel
theorem dX2_setTolerance_32 : decode cX2_setTolerance 32 = .ok (.ireturn, 1) := by decide +kernel
set_option maxRecDepth 20000 in
theorem ggX2_passDays_X2_isIn : GoodIn wsX2_passDays wsX2_isIn := goodIn_r _ [6] (by decide +kernel) (by decide +kernel)
set_option maxRecDepth 20000 in
theorem gX2_passDays_X2_isIn : GoodIn wsX2_passDays (va_wsS RX2 45 yX2_isIn wsX2_isIn) := goodIn_app (goodIn_of _ (by decide +kernel)) ggX2_passDays_X2_isIn
set_option maxRecDepth 20000 in
theorem ggX2_passDays_X2_fail : GoodIn wsX2_passDays wsX2_fail := goodIn_r _ [10, 1, 36, 37, 38, 39, 40, 41, 42, 43, 44, 45, 46, 47, 48, 49] (by decide +kernel) (by decide +kernel)
set_option maxRecDepth 20000 in
theorem gX2_passDays_X2_fail : GoodIn wsX2_passDays (wsV RX2 82 RX2 yX2_fail wsX2_fail) := goodIn_app (goodIn_of _ (by decide +kernel)) ggX2_passDays_X2_fail
set_option maxRecDepth 20000 in
theorem ggX2_passDays_X2_daysOn : GoodIn wsX2_passDays wsX2_daysOn := goodIn_r _ [14, 15, 16, 17, 5, 18, 19, 2, 20, 21, 22, 23, 24, 25, 26, 27, 28, 29, 30, 31, 32, 33, 34, 35, 36, 37, 38, 39, 40, 41, 42, 43, 44, 45, 46, 47, 48, 49] (by decide +kernel) (by decide +kernel)
set_option maxRecDepth 20000 in
theorem gX2_passDays_X2_daysOn : GoodIn wsX2_passDays (wsV RX2 94 RX2 yX2_daysOn wsX2_daysOn) := goodIn_app (goodIn_of _ (by decide +kernel)) ggX2_passDays_X2_daysOn
theorem dX2_passDays_0 : decode cX2_passDays 0 = .ok (.aload_n 0, 1) := by decide +kernel
theorem dX2_passDays_1 : decode cX2_passDays 1 = .ok (.iconst 0, 1) := by decide +kernel
theorem dX2_passDays_2 : decode cX2_passDays 2 = .ok (.putfield 42, 3) := by decide +kernel
theorem dX2_passDays_5 : decode cX2_passDays 5 = .ok (.iload_n 1, 1) := by decide +kernel
theorem dX2_passDays_6 : decode cX2_passDays 6 = .ok (.iconst 1, 1) := by decide +kernel
theorem dX2_passDays_7 : decode cX2_passDays 7 = .ok (.bipush 60, 2) := by decide +kernel
theorem dX2_passDays_9 : decode cX2_passDays 9 = .ok (.invokestatic 45, 3) := by decide +kernel
theorem dX2_passDays_12 : decode cX2_passDays 12 = .ok (.ifCond .ne 9, 3) := by decide +kernel
theorem dX2_passDays_15 : decode cX2_passDays 15 = .ok (.aload_n 0, 1) := by decide +kernel
theorem dX2_passDays_16 : decode cX2_passDays 16 = .ok (.iconst 1, 1) := by decide +kernel
theorem dX2_passDays_17 : decode cX2_passDays 17 = .ok (.invokevirtual 82, 3) := by decide +kernel
theorem dX2_passDays_20 : decode cX2_passDays 20 = .ok (.ireturn, 1) := by decide +kernel
theorem dX2_passDays_21 : decode cX2_passDays 21 = .ok (.aload_n 0, 1) := by decide +kernel
theorem dX2_passDays_22 : decode cX2_passDays 22 = .ok (.getfield 36, 3) := by decide +kernel
theorem dX2_passDays_25 : decode cX2_passDays 25 = .ok (.iconst 1, 1) := by decide +kernel
theorem dX2_passDays_26 : decode cX2_passDays 26 = .ok (.iaload, 1) := by decide +kernel
theorem dX2_passDays_27 : decode cX2_passDays 27 = .ok (.istore_n 2, 1) := by decide +kernel
theorem dX2_passDays_28 : decode cX2_passDays 28 = .ok (.aload_n 0, 1) := by decide +kernel
theorem dX2_passDays_29 : decode cX2_passDays 29 = .ok (.iload_n 1, 1) := by decide +kernel
theorem dX2_passDays_30 : decode cX2_passDays 30 = .ok (.invokevirtual 94, 3) := by decide +kernel
theorem dX2_passDays_33 : decode cX2_passDays 33 = .ok (.aload_n 0, 1) := by decide +kernel
theorem dX2_passDays_34 : decode cX2_passDays 34 = .ok (.getfield 36, 3) := by decide +kernel
theorem dX2_passDays_37 : decode cX2_passDays 37 = .ok (.iconst 1, 1) := by decide +kernel
theorem dX2_passDays_38 : decode cX2_passDays 38 = .ok (.iaload, 1) := by decide +kernel
theorem dX2_passDays_39 : decode cX2_passDays 39 = .ok (.iload_n 2, 1) := by decide +kernel
theorem dX2_passDays_40 : decode cX2_passDays 40 = .ok (.isub, 1) := by decide +kernel
theorem dX2_passDays_41 : decode cX2_passDays 41 = .ok (.ireturn, 1) := by decide +kernel
set_option maxRecDepth 20000 in
theorem ggX2_measures_X2_told : GoodIn wsX2_measures wsX2_told := goodIn_r _ [6, 7, 8, 9, 10, 11, 12, 13, 14, 15, 16, 17, 18, 19, 20, 21] (by decide +kernel) (by decide +kernel)
set_option maxRecDepth 20000 in
theorem gX2_measures_X2_told : GoodIn wsX2_measures (wsV RX2 98 RX2 yX2_told wsX2_told) := goodIn_app (goodIn_of _ (by decide +kernel)) ggX2_measures_X2_told
theorem dX2_measures_0 : decode cX2_measures 0 = .ok (.aload_n 0, 1) := by decide +kernel
theorem dX2_measures_1 : decode cX2_measures 1 = .ok (.aload_n 0, 1) := by decide +kernel
theorem dX2_measures_2 : decode cX2_measures 2 = .ok (.getfield 7, 3) := by decide +kernel
theorem dX2_measures_5 : decode cX2_measures 5 = .ok (.invokevirtual 98, 3) := by decide +kernel
theorem dX2_measures_8 : decode cX2_measures 8 = .ok (.ireturn, 1) := by decide +kernel
set_option maxRecDepth 20000 in
theorem ggX2_stalls_X2_told : GoodIn wsX2_stalls wsX2_told := goodIn_r _ [6, 7, 8, 9, 10, 11, 12, 13, 14, 15, 16, 17, 18, 19, 20, 21] (by decide +kernel) (by decide +kernel)
set_option maxRecDepth 20000 in
theorem gX2_stalls_X2_told : GoodIn wsX2_stalls (wsV RX2 98 RX2 yX2_told wsX2_told) := goodIn_app (goodIn_of _ (by decide +kernel)) ggX2_stalls_X2_told
theorem dX2_stalls_0 : decode cX2_stalls 0 = .ok (.aload_n 0, 1) := by decide +kernel
theorem dX2_stalls_1 : decode cX2_stalls 1 = .ok (.aload_n 0, 1) := by decide +kernel
theorem dX2_stalls_2 : decode cX2_stalls 2 = .ok (.getfield 49, 3) := by decide +kernel
theorem dX2_stalls_5 : decode cX2_stalls 5 = .ok (.invokevirtual 98, 3) := by decide +kernel
theorem dX2_stalls_8 : decode cX2_stalls 8 = .ok (.ireturn, 1) := by decide +kernel
set_option maxRecDepth 20000 in
theorem ggX2_days_X2_told : GoodIn wsX2_days wsX2_told := goodIn_r _ [6, 7, 8, 9, 10, 11, 12, 13, 14, 15, 16, 17, 18, 19, 20, 21] (by decide +kernel) (by decide +kernel)
set_option maxRecDepth 20000 in
theorem gX2_days_X2_told : GoodIn wsX2_days (wsV RX2 98 RX2 yX2_told wsX2_told) := goodIn_app (goodIn_of _ (by decide +kernel)) ggX2_days_X2_told
theorem dX2_days_0 : decode cX2_days 0 = .ok (.aload_n 0, 1) := by decide +kernel
theorem dX2_days_1 : decode cX2_days 1 = .ok (.aload_n 0, 1) := by decide +kernel
theorem dX2_days_2 : decode cX2_days 2 = .ok (.getfield 36, 3) := by decide +kernel
theorem dX2_days_5 : decode cX2_days 5 = .ok (.iconst 0, 1) := by decide +kernel
theorem dX2_days_6 : decode cX2_days 6 = .ok (.iaload, 1) := by decide +kernel
theorem dX2_days_7 : decode cX2_days 7 = .ok (.invokevirtual 98, 3) := by decide +kernel
theorem dX2_days_10 : decode cX2_days 10 = .ok (.ireturn, 1) := by decide +kernel
set_option maxRecDepth 20000 in
theorem ggX2_standard_X2_told : GoodIn wsX2_standard wsX2_told := goodIn_r _ [6, 7, 8, 9, 10, 11, 12, 13, 14, 15, 16, 17, 18, 19, 20, 21] (by decide +kernel) (by decide +kernel)
set_option maxRecDepth 20000 in
theorem gX2_standard_X2_told : GoodIn wsX2_standard (wsV RX2 98 RX2 yX2_told wsX2_told) := goodIn_app (goodIn_of _ (by decide +kernel)) ggX2_standard_X2_told
theorem dX2_standard_0 : decode cX2_standard 0 = .ok (.aload_n 0, 1) := by decide +kernel
theorem dX2_standard_1 : decode cX2_standard 1 = .ok (.aload_n 0, 1) := by decide +kernel
theorem dX2_standard_2 : decode cX2_standard 2 = .ok (.getfield 88, 3) := by decide +kernel
theorem dX2_standard_5 : decode cX2_standard 5 = .ok (.invokevirtual 98, 3) := by decide +kernel
theorem dX2_standard_8 : decode cX2_standard 8 = .ok (.ireturn, 1) := by decide +kernel
set_option maxRecDepth 20000 in
theorem ggX2_tolerance_X2_told : GoodIn wsX2_tolerance wsX2_told := goodIn_r _ [6, 7, 8, 9, 10, 11, 12, 13, 14, 15, 16, 17, 18, 19, 20, 21] (by decide +kernel) (by decide +kernel)
set_option maxRecDepth 20000 in
theorem gX2_tolerance_X2_told : GoodIn wsX2_tolerance (wsV RX2 98 RX2 yX2_told wsX2_told) := goodIn_app (goodIn_of _ (by decide +kernel)) ggX2_tolerance_X2_told
theorem dX2_tolerance_0 : decode cX2_tolerance 0 = .ok (.aload_n 0, 1) := by decide +kernel
theorem dX2_tolerance_1 : decode cX2_tolerance 1 = .ok (.aload_n 0, 1) := by decide +kernel
theorem dX2_tolerance_2 : decode cX2_tolerance 2 = .ok (.getfield 33, 3) := by decide +kernel
theorem dX2_tolerance_5 : decode cX2_tolerance 5 = .ok (.invokevirtual 98, 3) := by decide +kernel
theorem dX2_tolerance_8 : decode cX2_tolerance 8 = .ok (.ireturn, 1) := by decide +kernel
set_option maxRecDepth 20000 in
theorem ggX2_fines_X2_told : GoodIn wsX2_fines wsX2_told := goodIn_r _ [6, 7, 8, 9, 10, 11, 12, 13, 14, 15, 16, 17, 18, 19, 20, 21] (by decide +kernel) (by decide +kernel)
set_option maxRecDepth 20000 in
theorem gX2_fines_X2_told : GoodIn wsX2_fines (wsV RX2 98 RX2 yX2_told wsX2_told) := goodIn_app (goodIn_of _ (by decide +kernel)) ggX2_fines_X2_told
theorem dX2_fines_0 : decode cX2_fines 0 = .ok (.aload_n 0, 1) := by decide +kernel
theorem dX2_fines_1 : decode cX2_fines 1 = .ok (.aload_n 0, 1) := by decide +kernel
theorem dX2_fines_2 : decode cX2_fines 2 = .ok (.getfield 36, 3) := by decide +kernel
theorem dX2_fines_5 : decode cX2_fines 5 = .ok (.iconst 1, 1) := by decide +kernel
theorem dX2_fines_6 : decode cX2_fines 6 = .ok (.iaload, 1) := by decide +kernel
theorem dX2_fines_7 : decode cX2_fines 7 = .ok (.invokevirtual 98, 3) := by decide +kernel
theorem dX2_fines_10 : decode cX2_fines 10 = .ok (.ireturn, 1) := by decide +kernel
set_option maxRecDepth 20000 in
theorem ggX2_baseOf_X2_isMeasure : GoodIn wsX2_baseOf wsX2_isMeasure := goodIn_r _ [7, 8, 9, 10, 6, 11, 16, 17, 18, 19, 20, 21, 22, 23, 24, 25, 26, 27, 28, 29] (by decide +kernel) (by decide +kernel)
set_option maxRecDepth 20000 in
theorem gX2_baseOf_X2_isMeasure : GoodIn wsX2_baseOf (wsV RX2 79 RX2 yX2_isMeasure wsX2_isMeasure) := goodIn_app (goodIn_of _ (by decide +kernel)) ggX2_baseOf_X2_isMeasure
set_option maxRecDepth 20000 in
theorem ggX2_baseOf_X2_fail : GoodIn wsX2_baseOf wsX2_fail := goodIn_r _ [15, 1, 16, 17, 18, 19, 20, 21, 22, 23, 24, 25, 26, 27, 28, 29] (by decide +kernel) (by decide +kernel)
set_option maxRecDepth 20000 in
theorem gX2_baseOf_X2_fail : GoodIn wsX2_baseOf (wsV RX2 82 RX2 yX2_fail wsX2_fail) := goodIn_app (goodIn_of _ (by decide +kernel)) ggX2_baseOf_X2_fail
theorem dX2_baseOf_0 : decode cX2_baseOf 0 = .ok (.aload_n 0, 1) := by decide +kernel
theorem dX2_baseOf_1 : decode cX2_baseOf 1 = .ok (.iconst 0, 1) := by decide +kernel
theorem dX2_baseOf_2 : decode cX2_baseOf 2 = .ok (.putfield 42, 3) := by decide +kernel
theorem dX2_baseOf_5 : decode cX2_baseOf 5 = .ok (.aload_n 0, 1) := by decide +kernel
theorem dX2_baseOf_6 : decode cX2_baseOf 6 = .ok (.iload_n 1, 1) := by decide +kernel
theorem dX2_baseOf_7 : decode cX2_baseOf 7 = .ok (.invokevirtual 79, 3) := by decide +kernel
theorem dX2_baseOf_10 : decode cX2_baseOf 10 = .ok (.ifCond .eq 12, 3) := by decide +kernel
theorem dX2_baseOf_13 : decode cX2_baseOf 13 = .ok (.aload_n 0, 1) := by decide +kernel
theorem dX2_baseOf_14 : decode cX2_baseOf 14 = .ok (.getfield 13, 3) := by decide +kernel
theorem dX2_baseOf_17 : decode cX2_baseOf 17 = .ok (.iload_n 1, 1) := by decide +kernel
theorem dX2_baseOf_18 : decode cX2_baseOf 18 = .ok (.iaload, 1) := by decide +kernel
theorem dX2_baseOf_19 : decode cX2_baseOf 19 = .ok (.goto 8, 3) := by decide +kernel
theorem dX2_baseOf_22 : decode cX2_baseOf 22 = .ok (.aload_n 0, 1) := by decide +kernel
theorem dX2_baseOf_23 : decode cX2_baseOf 23 = .ok (.iconst 1, 1) := by decide +kernel
theorem dX2_baseOf_24 : decode cX2_baseOf 24 = .ok (.invokevirtual 82, 3) := by decide +kernel
theorem dX2_baseOf_27 : decode cX2_baseOf 27 = .ok (.ireturn, 1) := by decide +kernel
set_option maxRecDepth 20000 in
theorem ggX2_stepsToEll_X2_isMeasure : GoodIn wsX2_stepsToEll wsX2_isMeasure := goodIn_r _ [7, 8, 9, 10, 6, 11, 16, 17, 18, 19, 20, 21, 22, 23, 24, 25, 26, 27, 28, 29] (by decide +kernel) (by decide +kernel)
set_option maxRecDepth 20000 in
theorem gX2_stepsToEll_X2_isMeasure : GoodIn wsX2_stepsToEll (wsV RX2 79 RX2 yX2_isMeasure wsX2_isMeasure) := goodIn_app (goodIn_of _ (by decide +kernel)) ggX2_stepsToEll_X2_isMeasure
set_option maxRecDepth 20000 in
theorem ggX2_stepsToEll_X2_fail : GoodIn wsX2_stepsToEll wsX2_fail := goodIn_r _ [15, 1, 16, 17, 18, 19, 20, 21, 22, 23, 24, 25, 26, 27, 28, 29] (by decide +kernel) (by decide +kernel)
set_option maxRecDepth 20000 in
theorem gX2_stepsToEll_X2_fail : GoodIn wsX2_stepsToEll (wsV RX2 82 RX2 yX2_fail wsX2_fail) := goodIn_app (goodIn_of _ (by decide +kernel)) ggX2_stepsToEll_X2_fail
theorem dX2_stepsToEll_0 : decode cX2_stepsToEll 0 = .ok (.aload_n 0, 1) := by decide +kernel
theorem dX2_stepsToEll_1 : decode cX2_stepsToEll 1 = .ok (.iconst 0, 1) := by decide +kernel
theorem dX2_stepsToEll_2 : decode cX2_stepsToEll 2 = .ok (.putfield 42, 3) := by decide +kernel
theorem dX2_stepsToEll_5 : decode cX2_stepsToEll 5 = .ok (.aload_n 0, 1) := by decide +kernel
theorem dX2_stepsToEll_6 : decode cX2_stepsToEll 6 = .ok (.iload_n 1, 1) := by decide +kernel
theorem dX2_stepsToEll_7 : decode cX2_stepsToEll 7 = .ok (.invokevirtual 79, 3) := by decide +kernel
theorem dX2_stepsToEll_10 : decode cX2_stepsToEll 10 = .ok (.ifCond .ne 9, 3) := by decide +kernel
theorem dX2_stepsToEll_13 : decode cX2_stepsToEll 13 = .ok (.aload_n 0, 1) := by decide +kernel
theorem dX2_stepsToEll_14 : decode cX2_stepsToEll 14 = .ok (.iconst 1, 1) := by decide +kernel
theorem dX2_stepsToEll_15 : decode cX2_stepsToEll 15 = .ok (.invokevirtual 82, 3) := by decide +kernel
theorem dX2_stepsToEll_18 : decode cX2_stepsToEll 18 = .ok (.ireturn, 1) := by decide +kernel
theorem dX2_stepsToEll_19 : decode cX2_stepsToEll 19 = .ok (.iconst 0, 1) := by decide +kernel
theorem dX2_stepsToEll_20 : decode cX2_stepsToEll 20 = .ok (.istore_n 2, 1) := by decide +kernel
theorem dX2_stepsToEll_21 : decode cX2_stepsToEll 21 = .ok (.iload_n 1, 1) := by decide +kernel
theorem dX2_stepsToEll_22 : decode cX2_stepsToEll 22 = .ok (.istore_n 3, 1) := by decide +kernel
theorem dX2_stepsToEll_23 : decode cX2_stepsToEll 23 = .ok (.iload_n 3, 1) := by decide +kernel
theorem dX2_stepsToEll_24 : decode cX2_stepsToEll 24 = .ok (.ifCond .eq 16, 3) := by decide +kernel
theorem dX2_stepsToEll_27 : decode cX2_stepsToEll 27 = .ok (.iinc 2 1, 3) := by decide +kernel
theorem dX2_stepsToEll_30 : decode cX2_stepsToEll 30 = .ok (.aload_n 0, 1) := by decide +kernel
theorem dX2_stepsToEll_31 : decode cX2_stepsToEll 31 = .ok (.getfield 13, 3) := by decide +kernel
theorem dX2_stepsToEll_34 : decode cX2_stepsToEll 34 = .ok (.iload_n 3, 1) := by decide +kernel
theorem dX2_stepsToEll_35 : decode cX2_stepsToEll 35 = .ok (.iaload, 1) := by decide +kernel
theorem dX2_stepsToEll_36 : decode cX2_stepsToEll 36 = .ok (.istore_n 3, 1) := by decide +kernel
theorem dX2_stepsToEll_37 : decode cX2_stepsToEll 37 = .ok (.goto (-14), 3) := by decide +kernel
theorem dX2_stepsToEll_40 : decode cX2_stepsToEll 40 = .ok (.iload_n 2, 1) := by decide +kernel
theorem dX2_stepsToEll_41 : decode cX2_stepsToEll 41 = .ok (.ireturn, 1) := by decide +kernel
set_option maxRecDepth 20000 in
theorem ggX2_top_X2_divisor : GoodIn wsX2_top wsX2_divisor := goodIn_r _ [5] (by decide +kernel) (by decide +kernel)
set_option maxRecDepth 20000 in
theorem gX2_top_X2_divisor : GoodIn wsX2_top (va_wsS RX2 101 yX2_divisor wsX2_divisor) := goodIn_app (goodIn_of _ (by decide +kernel)) ggX2_top_X2_divisor
theorem dX2_top_0 : decode cX2_top 0 = .ok (.aload_n 0, 1) := by decide +kernel
theorem dX2_top_1 : decode cX2_top 1 = .ok (.getfield 23, 3) := by decide +kernel
theorem dX2_top_4 : decode cX2_top 4 = .ok (.iload_n 1, 1) := by decide +kernel
theorem dX2_top_5 : decode cX2_top 5 = .ok (.laload, 1) := by decide +kernel
theorem dX2_top_6 : decode cX2_top 6 = .ok (.aload_n 0, 1) := by decide +kernel
theorem dX2_top_7 : decode cX2_top 7 = .ok (.getfield 23, 3) := by decide +kernel
theorem dX2_top_10 : decode cX2_top 10 = .ok (.iload_n 1, 1) := by decide +kernel
theorem dX2_top_11 : decode cX2_top 11 = .ok (.laload, 1) := by decide +kernel
theorem dX2_top_12 : decode cX2_top 12 = .ok (.aload_n 0, 1) := by decide +kernel
theorem dX2_top_13 : decode cX2_top 13 = .ok (.getfield 23, 3) := by decide +kernel
theorem dX2_top_16 : decode cX2_top 16 = .ok (.iload_n 2, 1) := by decide +kernel
theorem dX2_top_17 : decode cX2_top 17 = .ok (.laload, 1) := by decide +kernel
theorem dX2_top_18 : decode cX2_top 18 = .ok (.invokestatic 101, 3) := by decide +kernel
theorem dX2_top_21 : decode cX2_top 21 = .ok (.ldiv, 1) := by decide +kernel
theorem dX2_top_22 : decode cX2_top 22 = .ok (.lreturn, 1) := by decide +kernel
set_option maxRecDepth 20000 in
theorem ggX2_lengthTop_X2_isMeasure : GoodIn wsX2_lengthTop wsX2_isMeasure := goodIn_r _ [7, 8, 9, 10, 6, 11, 24, 25, 26, 27, 28, 29, 30, 31, 32, 33, 34, 35, 36, 37] (by decide +kernel) (by decide +kernel)
set_option maxRecDepth 20000 in
theorem gX2_lengthTop_X2_isMeasure : GoodIn wsX2_lengthTop (wsV RX2 79 RX2 yX2_isMeasure wsX2_isMeasure) := goodIn_app (goodIn_of _ (by decide +kernel)) ggX2_lengthTop_X2_isMeasure
set_option maxRecDepth 20000 in
theorem ggX2_lengthTop_X2_top : GoodIn wsX2_lengthTop wsX2_top := goodIn_r _ [15, 16, 17, 18, 6, 19, 24, 25, 26, 27, 28, 29, 30, 31, 32, 33, 34, 35, 36, 37] (by decide +kernel) (by decide +kernel)
set_option maxRecDepth 20000 in
theorem gX2_lengthTop_X2_top : GoodIn wsX2_lengthTop (wsV RX2 105 RX2 yX2_top wsX2_top) := goodIn_app (goodIn_of _ (by decide +kernel)) ggX2_lengthTop_X2_top
set_option maxRecDepth 20000 in
theorem ggX2_lengthTop_X2_fail : GoodIn wsX2_lengthTop wsX2_fail := goodIn_r _ [23, 1, 24, 25, 26, 27, 28, 29, 30, 31, 32, 33, 34, 35, 36, 37] (by decide +kernel) (by decide +kernel)
set_option maxRecDepth 20000 in
theorem gX2_lengthTop_X2_fail : GoodIn wsX2_lengthTop (wsV RX2 82 RX2 yX2_fail wsX2_fail) := goodIn_app (goodIn_of _ (by decide +kernel)) ggX2_lengthTop_X2_fail
theorem dX2_lengthTop_0 : decode cX2_lengthTop 0 = .ok (.aload_n 0, 1) := by decide +kernel
theorem dX2_lengthTop_1 : decode cX2_lengthTop 1 = .ok (.iconst 0, 1) := by decide +kernel
theorem dX2_lengthTop_2 : decode cX2_lengthTop 2 = .ok (.putfield 42, 3) := by decide +kernel
theorem dX2_lengthTop_5 : decode cX2_lengthTop 5 = .ok (.aload_n 0, 1) := by decide +kernel
theorem dX2_lengthTop_6 : decode cX2_lengthTop 6 = .ok (.iload_n 1, 1) := by decide +kernel
theorem dX2_lengthTop_7 : decode cX2_lengthTop 7 = .ok (.invokevirtual 79, 3) := by decide +kernel
theorem dX2_lengthTop_10 : decode cX2_lengthTop 10 = .ok (.ifCond .eq 15, 3) := by decide +kernel
theorem dX2_lengthTop_13 : decode cX2_lengthTop 13 = .ok (.aload_n 0, 1) := by decide +kernel
theorem dX2_lengthTop_14 : decode cX2_lengthTop 14 = .ok (.iload_n 1, 1) := by decide +kernel
theorem dX2_lengthTop_15 : decode cX2_lengthTop 15 = .ok (.aload_n 0, 1) := by decide +kernel
theorem dX2_lengthTop_16 : decode cX2_lengthTop 16 = .ok (.getfield 88, 3) := by decide +kernel
theorem dX2_lengthTop_19 : decode cX2_lengthTop 19 = .ok (.invokevirtual 105, 3) := by decide +kernel
theorem dX2_lengthTop_22 : decode cX2_lengthTop 22 = .ok (.goto 9, 3) := by decide +kernel
theorem dX2_lengthTop_25 : decode cX2_lengthTop 25 = .ok (.aload_n 0, 1) := by decide +kernel
theorem dX2_lengthTop_26 : decode cX2_lengthTop 26 = .ok (.iconst 1, 1) := by decide +kernel
theorem dX2_lengthTop_27 : decode cX2_lengthTop 27 = .ok (.invokevirtual 82, 3) := by decide +kernel
theorem dX2_lengthTop_30 : decode cX2_lengthTop 30 = .ok (.i2l, 1) := by decide +kernel
theorem dX2_lengthTop_31 : decode cX2_lengthTop 31 = .ok (.lreturn, 1) := by decide +kernel
set_option maxRecDepth 20000 in
theorem ggX2_lengthBottom_X2_isMeasure : GoodIn wsX2_lengthBottom wsX2_isMeasure := goodIn_r _ [7, 8, 9, 10, 6, 11, 24, 25, 26, 27, 28, 29, 30, 31, 32, 33, 34, 35, 36, 37] (by decide +kernel) (by decide +kernel)
set_option maxRecDepth 20000 in
theorem gX2_lengthBottom_X2_isMeasure : GoodIn wsX2_lengthBottom (wsV RX2 79 RX2 yX2_isMeasure wsX2_isMeasure) := goodIn_app (goodIn_of _ (by decide +kernel)) ggX2_lengthBottom_X2_isMeasure
set_option maxRecDepth 20000 in
theorem ggX2_lengthBottom_X2_top : GoodIn wsX2_lengthBottom wsX2_top := goodIn_r _ [15, 16, 17, 18, 6, 19, 24, 25, 26, 27, 28, 29, 30, 31, 32, 33, 34, 35, 36, 37] (by decide +kernel) (by decide +kernel)
set_option maxRecDepth 20000 in
theorem gX2_lengthBottom_X2_top : GoodIn wsX2_lengthBottom (wsV RX2 105 RX2 yX2_top wsX2_top) := goodIn_app (goodIn_of _ (by decide +kernel)) ggX2_lengthBottom_X2_top
set_option maxRecDepth 20000 in
theorem ggX2_lengthBottom_X2_fail : GoodIn wsX2_lengthBottom wsX2_fail := goodIn_r _ [23, 1, 24, 25, 26, 27, 28, 29, 30, 31, 32, 33, 34, 35, 36, 37] (by decide +kernel) (by decide +kernel)
set_option maxRecDepth 20000 in
theorem gX2_lengthBottom_X2_fail : GoodIn wsX2_lengthBottom (wsV RX2 82 RX2 yX2_fail wsX2_fail) := goodIn_app (goodIn_of _ (by decide +kernel)) ggX2_lengthBottom_X2_fail
theorem dX2_lengthBottom_0 : decode cX2_lengthBottom 0 = .ok (.aload_n 0, 1) := by decide +kernel
theorem dX2_lengthBottom_1 : decode cX2_lengthBottom 1 = .ok (.iconst 0, 1) := by decide +kernel
theorem dX2_lengthBottom_2 : decode cX2_lengthBottom 2 = .ok (.putfield 42, 3) := by decide +kernel
theorem dX2_lengthBottom_5 : decode cX2_lengthBottom 5 = .ok (.aload_n 0, 1) := by decide +kernel
theorem dX2_lengthBottom_6 : decode cX2_lengthBottom 6 = .ok (.iload_n 1, 1) := by decide +kernel
theorem dX2_lengthBottom_7 : decode cX2_lengthBottom 7 = .ok (.invokevirtual 79, 3) := by decide +kernel
theorem dX2_lengthBottom_10 : decode cX2_lengthBottom 10 = .ok (.ifCond .eq 15, 3) := by decide +kernel
theorem dX2_lengthBottom_13 : decode cX2_lengthBottom 13 = .ok (.aload_n 0, 1) := by decide +kernel
theorem dX2_lengthBottom_14 : decode cX2_lengthBottom 14 = .ok (.aload_n 0, 1) := by decide +kernel
theorem dX2_lengthBottom_15 : decode cX2_lengthBottom 15 = .ok (.getfield 88, 3) := by decide +kernel
theorem dX2_lengthBottom_18 : decode cX2_lengthBottom 18 = .ok (.iload_n 1, 1) := by decide +kernel
theorem dX2_lengthBottom_19 : decode cX2_lengthBottom 19 = .ok (.invokevirtual 105, 3) := by decide +kernel
theorem dX2_lengthBottom_22 : decode cX2_lengthBottom 22 = .ok (.goto 9, 3) := by decide +kernel
theorem dX2_lengthBottom_25 : decode cX2_lengthBottom 25 = .ok (.aload_n 0, 1) := by decide +kernel
theorem dX2_lengthBottom_26 : decode cX2_lengthBottom 26 = .ok (.iconst 1, 1) := by decide +kernel
theorem dX2_lengthBottom_27 : decode cX2_lengthBottom 27 = .ok (.invokevirtual 82, 3) := by decide +kernel
theorem dX2_lengthBottom_30 : decode cX2_lengthBottom 30 = .ok (.i2l, 1) := by decide +kernel
theorem dX2_lengthBottom_31 : decode cX2_lengthBottom 31 = .ok (.lreturn, 1) := by decide +kernel
set_option maxRecDepth 20000 in
theorem ggX2_isLonger_X2_isMeasure : GoodIn wsX2_isLonger wsX2_isMeasure := goodIn_r _ [7, 8, 9, 10, 6, 11, 12, 13, 14, 15, 16, 17, 18, 19, 20, 21, 22, 23, 24, 25] (by decide +kernel) (by decide +kernel)
set_option maxRecDepth 20000 in
theorem gX2_isLonger_X2_isMeasure : GoodIn wsX2_isLonger (wsV RX2 79 RX2 yX2_isMeasure wsX2_isMeasure) := goodIn_app (goodIn_of _ (by decide +kernel)) ggX2_isLonger_X2_isMeasure
theorem dX2_isLonger_0 : decode cX2_isLonger 0 = .ok (.aload_n 0, 1) := by decide +kernel
theorem dX2_isLonger_1 : decode cX2_isLonger 1 = .ok (.aload_n 0, 1) := by decide +kernel
theorem dX2_isLonger_2 : decode cX2_isLonger 2 = .ok (.iload_n 1, 1) := by decide +kernel
theorem dX2_isLonger_3 : decode cX2_isLonger 3 = .ok (.invokevirtual 79, 3) := by decide +kernel
theorem dX2_isLonger_6 : decode cX2_isLonger 6 = .ok (.ifCond .eq 15, 3) := by decide +kernel
theorem dX2_isLonger_9 : decode cX2_isLonger 9 = .ok (.aload_n 0, 1) := by decide +kernel
theorem dX2_isLonger_10 : decode cX2_isLonger 10 = .ok (.iload_n 2, 1) := by decide +kernel
theorem dX2_isLonger_11 : decode cX2_isLonger 11 = .ok (.invokevirtual 79, 3) := by decide +kernel
theorem dX2_isLonger_14 : decode cX2_isLonger 14 = .ok (.ifCond .eq 7, 3) := by decide +kernel
theorem dX2_isLonger_17 : decode cX2_isLonger 17 = .ok (.iconst 0, 1) := by decide +kernel
theorem dX2_isLonger_18 : decode cX2_isLonger 18 = .ok (.goto 4, 3) := by decide +kernel
theorem dX2_isLonger_21 : decode cX2_isLonger 21 = .ok (.iconst 1, 1) := by decide +kernel
theorem dX2_isLonger_22 : decode cX2_isLonger 22 = .ok (.putfield 42, 3) := by decide +kernel
theorem dX2_isLonger_25 : decode cX2_isLonger 25 = .ok (.aload_n 0, 1) := by decide +kernel
theorem dX2_isLonger_26 : decode cX2_isLonger 26 = .ok (.getfield 42, 3) := by decide +kernel
theorem dX2_isLonger_29 : decode cX2_isLonger 29 = .ok (.ifCond .ne 23, 3) := by decide +kernel
theorem dX2_isLonger_32 : decode cX2_isLonger 32 = .ok (.aload_n 0, 1) := by decide +kernel
theorem dX2_isLonger_33 : decode cX2_isLonger 33 = .ok (.getfield 23, 3) := by decide +kernel
theorem dX2_isLonger_36 : decode cX2_isLonger 36 = .ok (.iload_n 1, 1) := by decide +kernel
theorem dX2_isLonger_37 : decode cX2_isLonger 37 = .ok (.laload, 1) := by decide +kernel
theorem dX2_isLonger_38 : decode cX2_isLonger 38 = .ok (.aload_n 0, 1) := by decide +kernel
theorem dX2_isLonger_39 : decode cX2_isLonger 39 = .ok (.getfield 23, 3) := by decide +kernel
theorem dX2_isLonger_42 : decode cX2_isLonger 42 = .ok (.iload_n 2, 1) := by decide +kernel
theorem dX2_isLonger_43 : decode cX2_isLonger 43 = .ok (.laload, 1) := by decide +kernel
theorem dX2_isLonger_44 : decode cX2_isLonger 44 = .ok (.lcmp, 1) := by decide +kernel
theorem dX2_isLonger_45 : decode cX2_isLonger 45 = .ok (.ifCond .le 7, 3) := by decide +kernel
theorem dX2_isLonger_48 : decode cX2_isLonger 48 = .ok (.iconst 1, 1) := by decide +kernel
theorem dX2_isLonger_49 : decode cX2_isLonger 49 = .ok (.goto 4, 3) := by decide +kernel
theorem dX2_isLonger_52 : decode cX2_isLonger 52 = .ok (.iconst 0, 1) := by decide +kernel
theorem dX2_isLonger_53 : decode cX2_isLonger 53 = .ok (.ireturn, 1) := by decide +kernel
set_option maxRecDepth 20000 in
theorem ggX2_longest_X2_told : GoodIn wsX2_longest wsX2_told := goodIn_r _ [6, 7, 8, 9, 10, 11, 12, 13, 14, 15, 16, 17, 18, 19, 20, 21] (by decide +kernel) (by decide +kernel)
set_option maxRecDepth 20000 in
theorem gX2_longest_X2_told : GoodIn wsX2_longest (wsV RX2 98 RX2 yX2_told wsX2_told) := goodIn_app (goodIn_of _ (by decide +kernel)) ggX2_longest_X2_told
theorem dX2_longest_0 : decode cX2_longest 0 = .ok (.aload_n 0, 1) := by decide +kernel
theorem dX2_longest_1 : decode cX2_longest 1 = .ok (.aload_n 0, 1) := by decide +kernel
theorem dX2_longest_2 : decode cX2_longest 2 = .ok (.getfield 27, 3) := by decide +kernel
theorem dX2_longest_5 : decode cX2_longest 5 = .ok (.iconst 0, 1) := by decide +kernel
theorem dX2_longest_6 : decode cX2_longest 6 = .ok (.iaload, 1) := by decide +kernel
theorem dX2_longest_7 : decode cX2_longest 7 = .ok (.invokevirtual 98, 3) := by decide +kernel
theorem dX2_longest_10 : decode cX2_longest 10 = .ok (.ireturn, 1) := by decide +kernel
theorem dX2_least_0 : decode cX2_least 0 = .ok (.iconst 0, 1) := by decide +kernel
theorem dX2_least_1 : decode cX2_least 1 = .ok (.istore_n 1, 1) := by decide +kernel
theorem dX2_least_2 : decode cX2_least 2 = .ok (.iconst 1, 1) := by decide +kernel
theorem dX2_least_3 : decode cX2_least 3 = .ok (.istore_n 2, 1) := by decide +kernel
theorem dX2_least_4 : decode cX2_least 4 = .ok (.iload_n 2, 1) := by decide +kernel
theorem dX2_least_5 : decode cX2_least 5 = .ok (.aload_n 0, 1) := by decide +kernel
theorem dX2_least_6 : decode cX2_least 6 = .ok (.getfield 7, 3) := by decide +kernel
theorem dX2_least_9 : decode cX2_least 9 = .ok (.if_icmp .ge 27, 3) := by decide +kernel
theorem dX2_least_12 : decode cX2_least 12 = .ok (.aload_n 0, 1) := by decide +kernel
theorem dX2_least_13 : decode cX2_least 13 = .ok (.getfield 23, 3) := by decide +kernel
theorem dX2_least_16 : decode cX2_least 16 = .ok (.iload_n 2, 1) := by decide +kernel
theorem dX2_least_17 : decode cX2_least 17 = .ok (.laload, 1) := by decide +kernel
theorem dX2_least_18 : decode cX2_least 18 = .ok (.aload_n 0, 1) := by decide +kernel
theorem dX2_least_19 : decode cX2_least 19 = .ok (.getfield 23, 3) := by decide +kernel
theorem dX2_least_22 : decode cX2_least 22 = .ok (.iload_n 1, 1) := by decide +kernel
theorem dX2_least_23 : decode cX2_least 23 = .ok (.laload, 1) := by decide +kernel
theorem dX2_least_24 : decode cX2_least 24 = .ok (.lcmp, 1) := by decide +kernel
theorem dX2_least_25 : decode cX2_least 25 = .ok (.ifCond .ge 5, 3) := by decide +kernel
theorem dX2_least_28 : decode cX2_least 28 = .ok (.iload_n 2, 1) := by decide +kernel
theorem dX2_least_29 : decode cX2_least 29 = .ok (.istore_n 1, 1) := by decide +kernel
theorem dX2_least_30 : decode cX2_least 30 = .ok (.iinc 2 1, 3) := by decide +kernel
theorem dX2_least_33 : decode cX2_least 33 = .ok (.goto (-29), 3) := by decide +kernel
theorem dX2_least_36 : decode cX2_least 36 = .ok (.iload_n 1, 1) := by decide +kernel
theorem dX2_least_37 : decode cX2_least 37 = .ok (.ireturn, 1) := by decide +kernel
set_option maxRecDepth 20000 in
theorem ggX2_shortest_X2_least : GoodIn wsX2_shortest wsX2_least := goodIn_r _ [5, 6, 7, 13, 14, 15, 16, 17, 18, 19, 20, 21, 22, 23, 24, 25, 26] (by decide +kernel) (by decide +kernel)
set_option maxRecDepth 20000 in
theorem gX2_shortest_X2_least : GoodIn wsX2_shortest (wsV RX2 109 RX2 yX2_least wsX2_least) := goodIn_app (goodIn_of _ (by decide +kernel)) ggX2_shortest_X2_least
set_option maxRecDepth 20000 in
theorem ggX2_shortest_X2_told : GoodIn wsX2_shortest wsX2_told := goodIn_r _ [11, 12, 13, 14, 15, 16, 17, 18, 19, 20, 21, 22, 23, 24, 25, 26] (by decide +kernel) (by decide +kernel)
set_option maxRecDepth 20000 in
theorem gX2_shortest_X2_told : GoodIn wsX2_shortest (wsV RX2 98 RX2 yX2_told wsX2_told) := goodIn_app (goodIn_of _ (by decide +kernel)) ggX2_shortest_X2_told
theorem dX2_shortest_0 : decode cX2_shortest 0 = .ok (.aload_n 0, 1) := by decide +kernel
theorem dX2_shortest_1 : decode cX2_shortest 1 = .ok (.aload_n 0, 1) := by decide +kernel
theorem dX2_shortest_2 : decode cX2_shortest 2 = .ok (.invokevirtual 109, 3) := by decide +kernel
theorem dX2_shortest_5 : decode cX2_shortest 5 = .ok (.invokevirtual 98, 3) := by decide +kernel
theorem dX2_shortest_8 : decode cX2_shortest 8 = .ok (.ireturn, 1) := by decide +kernel
set_option maxRecDepth 20000 in
theorem ggX2_fewestToMeet_X2_isMeasure : GoodIn wsX2_fewestToMeet wsX2_isMeasure := goodIn_r _ [6, 7, 8, 9, 5, 10, 23, 24, 25, 26, 27, 28, 29, 30, 31, 32, 33, 34, 35, 36] (by decide +kernel) (by decide +kernel)
set_option maxRecDepth 20000 in
theorem gX2_fewestToMeet_X2_isMeasure : GoodIn wsX2_fewestToMeet (wsV RX2 79 RX2 yX2_isMeasure wsX2_isMeasure) := goodIn_app (goodIn_of _ (by decide +kernel)) ggX2_fewestToMeet_X2_isMeasure
set_option maxRecDepth 20000 in
theorem ggX2_fewestToMeet_X2_top : GoodIn wsX2_fewestToMeet wsX2_top := goodIn_r _ [14, 15, 16, 17, 5, 18, 23, 24, 25, 26, 27, 28, 29, 30, 31, 32, 33, 34, 35, 36] (by decide +kernel) (by decide +kernel)
set_option maxRecDepth 20000 in
theorem gX2_fewestToMeet_X2_top : GoodIn wsX2_fewestToMeet (wsV RX2 105 RX2 yX2_top wsX2_top) := goodIn_app (goodIn_of _ (by decide +kernel)) ggX2_fewestToMeet_X2_top
set_option maxRecDepth 20000 in
theorem ggX2_fewestToMeet_X2_fail : GoodIn wsX2_fewestToMeet wsX2_fail := goodIn_r _ [22, 1, 23, 24, 25, 26, 27, 28, 29, 30, 31, 32, 33, 34, 35, 36] (by decide +kernel) (by decide +kernel)
set_option maxRecDepth 20000 in
theorem gX2_fewestToMeet_X2_fail : GoodIn wsX2_fewestToMeet (wsV RX2 82 RX2 yX2_fail wsX2_fail) := goodIn_app (goodIn_of _ (by decide +kernel)) ggX2_fewestToMeet_X2_fail
theorem dX2_fewestToMeet_0 : decode cX2_fewestToMeet 0 = .ok (.aload_n 0, 1) := by decide +kernel
theorem dX2_fewestToMeet_1 : decode cX2_fewestToMeet 1 = .ok (.iconst 0, 1) := by decide +kernel
theorem dX2_fewestToMeet_2 : decode cX2_fewestToMeet 2 = .ok (.putfield 42, 3) := by decide +kernel
theorem dX2_fewestToMeet_5 : decode cX2_fewestToMeet 5 = .ok (.aload_n 0, 1) := by decide +kernel
theorem dX2_fewestToMeet_6 : decode cX2_fewestToMeet 6 = .ok (.iload_n 1, 1) := by decide +kernel
theorem dX2_fewestToMeet_7 : decode cX2_fewestToMeet 7 = .ok (.invokevirtual 79, 3) := by decide +kernel
theorem dX2_fewestToMeet_10 : decode cX2_fewestToMeet 10 = .ok (.ifCond .eq 20, 3) := by decide +kernel
theorem dX2_fewestToMeet_13 : decode cX2_fewestToMeet 13 = .ok (.aload_n 0, 1) := by decide +kernel
theorem dX2_fewestToMeet_14 : decode cX2_fewestToMeet 14 = .ok (.iload_n 2, 1) := by decide +kernel
theorem dX2_fewestToMeet_15 : decode cX2_fewestToMeet 15 = .ok (.invokevirtual 79, 3) := by decide +kernel
theorem dX2_fewestToMeet_18 : decode cX2_fewestToMeet 18 = .ok (.ifCond .eq 12, 3) := by decide +kernel
theorem dX2_fewestToMeet_21 : decode cX2_fewestToMeet 21 = .ok (.aload_n 0, 1) := by decide +kernel
theorem dX2_fewestToMeet_22 : decode cX2_fewestToMeet 22 = .ok (.iload_n 2, 1) := by decide +kernel
theorem dX2_fewestToMeet_23 : decode cX2_fewestToMeet 23 = .ok (.iload_n 1, 1) := by decide +kernel
theorem dX2_fewestToMeet_24 : decode cX2_fewestToMeet 24 = .ok (.invokevirtual 105, 3) := by decide +kernel
theorem dX2_fewestToMeet_27 : decode cX2_fewestToMeet 27 = .ok (.goto 9, 3) := by decide +kernel
theorem dX2_fewestToMeet_30 : decode cX2_fewestToMeet 30 = .ok (.aload_n 0, 1) := by decide +kernel
theorem dX2_fewestToMeet_31 : decode cX2_fewestToMeet 31 = .ok (.iconst 1, 1) := by decide +kernel
theorem dX2_fewestToMeet_32 : decode cX2_fewestToMeet 32 = .ok (.invokevirtual 82, 3) := by decide +kernel
theorem dX2_fewestToMeet_35 : decode cX2_fewestToMeet 35 = .ok (.i2l, 1) := by decide +kernel
theorem dX2_fewestToMeet_36 : decode cX2_fewestToMeet 36 = .ok (.lreturn, 1) := by decide +kernel
set_option maxRecDepth 20000 in
theorem ggX2_can_X2_isMeasure : GoodIn wsX2_can wsX2_isMeasure := goodIn_r _ [6, 7, 8, 9, 5, 10, 11, 12, 13, 14, 15, 16, 17, 18, 19, 20, 21, 22, 23, 24] (by decide +kernel) (by decide +kernel)
set_option maxRecDepth 20000 in
theorem gX2_can_X2_isMeasure : GoodIn wsX2_can (wsV RX2 79 RX2 yX2_isMeasure wsX2_isMeasure) := goodIn_app (goodIn_of _ (by decide +kernel)) ggX2_can_X2_isMeasure
set_option maxRecDepth 20000 in
theorem ggX2_can_X2_isIn : GoodIn wsX2_can wsX2_isIn := goodIn_r _ [10] (by decide +kernel) (by decide +kernel)
set_option maxRecDepth 20000 in
theorem gX2_can_X2_isIn : GoodIn wsX2_can (va_wsS RX2 45 yX2_isIn wsX2_isIn) := goodIn_app (goodIn_of _ (by decide +kernel)) ggX2_can_X2_isIn
theorem dX2_can_0 : decode cX2_can 0 = .ok (.aload_n 0, 1) := by decide +kernel
theorem dX2_can_1 : decode cX2_can 1 = .ok (.aload_n 0, 1) := by decide +kernel
theorem dX2_can_2 : decode cX2_can 2 = .ok (.iload_n 1, 1) := by decide +kernel
theorem dX2_can_3 : decode cX2_can 3 = .ok (.invokevirtual 79, 3) := by decide +kernel
theorem dX2_can_6 : decode cX2_can 6 = .ok (.ifCond .eq 11, 3) := by decide +kernel
theorem dX2_can_9 : decode cX2_can 9 = .ok (.aload_n 0, 1) := by decide +kernel
theorem dX2_can_10 : decode cX2_can 10 = .ok (.iload_n 2, 1) := by decide +kernel
theorem dX2_can_11 : decode cX2_can 11 = .ok (.invokevirtual 79, 3) := by decide +kernel
theorem dX2_can_14 : decode cX2_can 14 = .ok (.ifCond .ne 7, 3) := by decide +kernel
theorem dX2_can_17 : decode cX2_can 17 = .ok (.iconst 1, 1) := by decide +kernel
theorem dX2_can_18 : decode cX2_can 18 = .ok (.goto 19, 3) := by decide +kernel
theorem dX2_can_21 : decode cX2_can 21 = .ok (.iload_n 3, 1) := by decide +kernel
theorem dX2_can_22 : decode cX2_can 22 = .ok (.iconst 1, 1) := by decide +kernel
theorem dX2_can_23 : decode cX2_can 23 = .ok (.sipush 200, 3) := by decide +kernel
theorem dX2_can_26 : decode cX2_can 26 = .ok (.invokestatic 45, 3) := by decide +kernel
theorem dX2_can_29 : decode cX2_can 29 = .ok (.ifCond .eq 7, 3) := by decide +kernel
theorem dX2_can_32 : decode cX2_can 32 = .ok (.iconst 0, 1) := by decide +kernel
theorem dX2_can_33 : decode cX2_can 33 = .ok (.goto 4, 3) := by decide +kernel
theorem dX2_can_36 : decode cX2_can 36 = .ok (.iconst 2, 1) := by decide +kernel
theorem dX2_can_37 : decode cX2_can 37 = .ok (.putfield 42, 3) := by decide +kernel
theorem dX2_can_40 : decode cX2_can 40 = .ok (.aload_n 0, 1) := by decide +kernel
theorem dX2_can_41 : decode cX2_can 41 = .ok (.getfield 42, 3) := by decide +kernel
theorem dX2_can_44 : decode cX2_can 44 = .ok (.ifCond .ne 7, 3) := by decide +kernel
theorem dX2_can_47 : decode cX2_can 47 = .ok (.iconst 1, 1) := by decide +kernel
theorem dX2_can_48 : decode cX2_can 48 = .ok (.goto 4, 3) := by decide +kernel
theorem dX2_can_51 : decode cX2_can 51 = .ok (.iconst 0, 1) := by decide +kernel
theorem dX2_can_52 : decode cX2_can 52 = .ok (.ireturn, 1) := by decide +kernel
set_option maxRecDepth 20000 in
theorem ggX2_convert_X2_can : GoodIn wsX2_convert wsX2_can := goodIn_r _ [6, 7, 8, 9, 10, 5, 11, 12, 13, 14, 15, 16, 17, 18, 19, 20, 21, 22, 23, 24, 25, 26, 27, 28, 29] (by decide +kernel) (by decide +kernel)
set_option maxRecDepth 20000 in
theorem gX2_convert_X2_can : GoodIn wsX2_convert (wsV RX2 112 RX2 yX2_can wsX2_can) := goodIn_app (goodIn_of _ (by decide +kernel)) ggX2_convert_X2_can
theorem dX2_convert_0 : decode cX2_convert 0 = .ok (.aload_n 0, 1) := by decide +kernel
theorem dX2_convert_1 : decode cX2_convert 1 = .ok (.iload_n 2, 1) := by decide +kernel
theorem dX2_convert_2 : decode cX2_convert 2 = .ok (.iload_n 3, 1) := by decide +kernel
theorem dX2_convert_3 : decode cX2_convert 3 = .ok (.iload_n 1, 1) := by decide +kernel
theorem dX2_convert_4 : decode cX2_convert 4 = .ok (.invokevirtual 112, 3) := by decide +kernel
theorem dX2_convert_7 : decode cX2_convert 7 = .ok (.ifCond .eq 22, 3) := by decide +kernel
theorem dX2_convert_10 : decode cX2_convert 10 = .ok (.iload_n 1, 1) := by decide +kernel
theorem dX2_convert_11 : decode cX2_convert 11 = .ok (.i2l, 1) := by decide +kernel
theorem dX2_convert_12 : decode cX2_convert 12 = .ok (.aload_n 0, 1) := by decide +kernel
theorem dX2_convert_13 : decode cX2_convert 13 = .ok (.getfield 23, 3) := by decide +kernel
theorem dX2_convert_16 : decode cX2_convert 16 = .ok (.iload_n 2, 1) := by decide +kernel
theorem dX2_convert_17 : decode cX2_convert 17 = .ok (.laload, 1) := by decide +kernel
theorem dX2_convert_18 : decode cX2_convert 18 = .ok (.lmul, 1) := by decide +kernel
theorem dX2_convert_19 : decode cX2_convert 19 = .ok (.aload_n 0, 1) := by decide +kernel
theorem dX2_convert_20 : decode cX2_convert 20 = .ok (.getfield 23, 3) := by decide +kernel
theorem dX2_convert_23 : decode cX2_convert 23 = .ok (.iload_n 3, 1) := by decide +kernel
theorem dX2_convert_24 : decode cX2_convert 24 = .ok (.laload, 1) := by decide +kernel
theorem dX2_convert_25 : decode cX2_convert 25 = .ok (.ldiv, 1) := by decide +kernel
theorem dX2_convert_26 : decode cX2_convert 26 = .ok (.goto 4, 3) := by decide +kernel
theorem dX2_convert_29 : decode cX2_convert 29 = .ok (.lconst 0, 1) := by decide +kernel
theorem dX2_convert_30 : decode cX2_convert 30 = .ok (.lreturn, 1) := by decide +kernel
set_option maxRecDepth 20000 in
theorem ggX2_isExact_X2_can : GoodIn wsX2_isExact wsX2_can := goodIn_r _ [6, 7, 8, 9, 10, 5, 11, 12, 13, 14, 15, 16, 17, 18, 19, 20, 21, 22, 23, 24, 25, 26, 27, 28, 29] (by decide +kernel) (by decide +kernel)
set_option maxRecDepth 20000 in
theorem gX2_isExact_X2_can : GoodIn wsX2_isExact (wsV RX2 112 RX2 yX2_can wsX2_can) := goodIn_app (goodIn_of _ (by decide +kernel)) ggX2_isExact_X2_can
theorem dX2_isExact_0 : decode cX2_isExact 0 = .ok (.aload_n 0, 1) := by decide +kernel
theorem dX2_isExact_1 : decode cX2_isExact 1 = .ok (.iload_n 2, 1) := by decide +kernel
theorem dX2_isExact_2 : decode cX2_isExact 2 = .ok (.iload_n 3, 1) := by decide +kernel
theorem dX2_isExact_3 : decode cX2_isExact 3 = .ok (.iload_n 1, 1) := by decide +kernel
theorem dX2_isExact_4 : decode cX2_isExact 4 = .ok (.invokevirtual 112, 3) := by decide +kernel
theorem dX2_isExact_7 : decode cX2_isExact 7 = .ok (.ifCond .eq 28, 3) := by decide +kernel
theorem dX2_isExact_10 : decode cX2_isExact 10 = .ok (.iload_n 1, 1) := by decide +kernel
theorem dX2_isExact_11 : decode cX2_isExact 11 = .ok (.i2l, 1) := by decide +kernel
theorem dX2_isExact_12 : decode cX2_isExact 12 = .ok (.aload_n 0, 1) := by decide +kernel
theorem dX2_isExact_13 : decode cX2_isExact 13 = .ok (.getfield 23, 3) := by decide +kernel
theorem dX2_isExact_16 : decode cX2_isExact 16 = .ok (.iload_n 2, 1) := by decide +kernel
theorem dX2_isExact_17 : decode cX2_isExact 17 = .ok (.laload, 1) := by decide +kernel
theorem dX2_isExact_18 : decode cX2_isExact 18 = .ok (.lmul, 1) := by decide +kernel
theorem dX2_isExact_19 : decode cX2_isExact 19 = .ok (.aload_n 0, 1) := by decide +kernel
theorem dX2_isExact_20 : decode cX2_isExact 20 = .ok (.getfield 23, 3) := by decide +kernel
theorem dX2_isExact_23 : decode cX2_isExact 23 = .ok (.iload_n 3, 1) := by decide +kernel
theorem dX2_isExact_24 : decode cX2_isExact 24 = .ok (.laload, 1) := by decide +kernel
theorem dX2_isExact_25 : decode cX2_isExact 25 = .ok (.lrem, 1) := by decide +kernel
theorem dX2_isExact_26 : decode cX2_isExact 26 = .ok (.lconst 0, 1) := by decide +kernel
theorem dX2_isExact_27 : decode cX2_isExact 27 = .ok (.lcmp, 1) := by decide +kernel
theorem dX2_isExact_28 : decode cX2_isExact 28 = .ok (.ifCond .ne 7, 3) := by decide +kernel
theorem dX2_isExact_31 : decode cX2_isExact 31 = .ok (.iconst 1, 1) := by decide +kernel
theorem dX2_isExact_32 : decode cX2_isExact 32 = .ok (.goto 4, 3) := by decide +kernel
theorem dX2_isExact_35 : decode cX2_isExact 35 = .ok (.iconst 0, 1) := by decide +kernel
theorem dX2_isExact_36 : decode cX2_isExact 36 = .ok (.ireturn, 1) := by decide +kernel
theorem dX2_split_0 : decode cX2_split 0 = .ok (.aload_n 0, 1) := by decide +kernel
theorem dX2_split_1 : decode cX2_split 1 = .ok (.lload_n 1, 1) := by decide +kernel
theorem dX2_split_2 : decode cX2_split 2 = .ok (.putfield 115, 3) := by decide +kernel
theorem dX2_split_5 : decode cX2_split 5 = .ok (.lconst 0, 1) := by decide +kernel
theorem dX2_split_6 : decode cX2_split 6 = .ok (.lstore 4, 2) := by decide +kernel
theorem dX2_split_8 : decode cX2_split 8 = .ok (.iconst 0, 1) := by decide +kernel
theorem dX2_split_9 : decode cX2_split 9 = .ok (.istore 6, 2) := by decide +kernel
theorem dX2_split_11 : decode cX2_split 11 = .ok (.iload 6, 2) := by decide +kernel
theorem dX2_split_13 : decode cX2_split 13 = .ok (.aload_n 0, 1) := by decide +kernel
theorem dX2_split_14 : decode cX2_split 14 = .ok (.getfield 7, 3) := by decide +kernel
theorem dX2_split_17 : decode cX2_split 17 = .ok (.if_icmp .ge 62, 3) := by decide +kernel
theorem dX2_split_20 : decode cX2_split 20 = .ok (.aload_n 0, 1) := by decide +kernel
theorem dX2_split_21 : decode cX2_split 21 = .ok (.getfield 27, 3) := by decide +kernel
theorem dX2_split_24 : decode cX2_split 24 = .ok (.iload 6, 2) := by decide +kernel
theorem dX2_split_26 : decode cX2_split 26 = .ok (.iaload, 1) := by decide +kernel
theorem dX2_split_27 : decode cX2_split 27 = .ok (.istore 7, 2) := by decide +kernel
theorem dX2_split_29 : decode cX2_split 29 = .ok (.iload_n 3, 1) := by decide +kernel
theorem dX2_split_30 : decode cX2_split 30 = .ok (.iconst (-1), 1) := by decide +kernel
theorem dX2_split_31 : decode cX2_split 31 = .ok (.if_icmp .eq 9, 3) := by decide +kernel
theorem dX2_split_34 : decode cX2_split 34 = .ok (.iload_n 3, 1) := by decide +kernel
theorem dX2_split_35 : decode cX2_split 35 = .ok (.iload 7, 2) := by decide +kernel
theorem dX2_split_37 : decode cX2_split 37 = .ok (.if_icmp .ne 20, 3) := by decide +kernel
theorem dX2_split_40 : decode cX2_split 40 = .ok (.lload 4, 2) := by decide +kernel
theorem dX2_split_42 : decode cX2_split 42 = .ok (.aload_n 0, 1) := by decide +kernel
theorem dX2_split_43 : decode cX2_split 43 = .ok (.getfield 115, 3) := by decide +kernel
theorem dX2_split_46 : decode cX2_split 46 = .ok (.aload_n 0, 1) := by decide +kernel
theorem dX2_split_47 : decode cX2_split 47 = .ok (.getfield 23, 3) := by decide +kernel
theorem dX2_split_50 : decode cX2_split 50 = .ok (.iload 7, 2) := by decide +kernel
theorem dX2_split_52 : decode cX2_split 52 = .ok (.laload, 1) := by decide +kernel
theorem dX2_split_53 : decode cX2_split 53 = .ok (.ldiv, 1) := by decide +kernel
theorem dX2_split_54 : decode cX2_split 54 = .ok (.ladd, 1) := by decide +kernel
theorem dX2_split_55 : decode cX2_split 55 = .ok (.lstore 4, 2) := by decide +kernel
theorem dX2_split_57 : decode cX2_split 57 = .ok (.aload_n 0, 1) := by decide +kernel
theorem dX2_split_58 : decode cX2_split 58 = .ok (.dup, 1) := by decide +kernel
theorem dX2_split_59 : decode cX2_split 59 = .ok (.getfield 115, 3) := by decide +kernel
theorem dX2_split_62 : decode cX2_split 62 = .ok (.aload_n 0, 1) := by decide +kernel
theorem dX2_split_63 : decode cX2_split 63 = .ok (.getfield 23, 3) := by decide +kernel
theorem dX2_split_66 : decode cX2_split 66 = .ok (.iload 7, 2) := by decide +kernel
theorem dX2_split_68 : decode cX2_split 68 = .ok (.laload, 1) := by decide +kernel
theorem dX2_split_69 : decode cX2_split 69 = .ok (.lrem, 1) := by decide +kernel
theorem dX2_split_70 : decode cX2_split 70 = .ok (.putfield 115, 3) := by decide +kernel
theorem dX2_split_73 : decode cX2_split 73 = .ok (.iinc 6 1, 3) := by decide +kernel
theorem dX2_split_76 : decode cX2_split 76 = .ok (.goto (-65), 3) := by decide +kernel
theorem dX2_split_79 : decode cX2_split 79 = .ok (.lload 4, 2) := by decide +kernel
theorem dX2_split_81 : decode cX2_split 81 = .ok (.lreturn, 1) := by decide +kernel
set_option maxRecDepth 20000 in
theorem ggX2_piecesOf_X2_can : GoodIn wsX2_piecesOf wsX2_can := goodIn_r _ [6, 7, 8, 9, 10, 5, 11, 12, 13, 14, 15, 22, 23, 24, 25, 26, 27, 28, 29, 30, 31, 32, 33, 34, 35] (by decide +kernel) (by decide +kernel)
set_option maxRecDepth 20000 in
theorem gX2_piecesOf_X2_can : GoodIn wsX2_piecesOf (wsV RX2 112 RX2 yX2_can wsX2_can) := goodIn_app (goodIn_of _ (by decide +kernel)) ggX2_piecesOf_X2_can
set_option maxRecDepth 20000 in
theorem ggX2_piecesOf_X2_split : GoodIn wsX2_piecesOf wsX2_split := goodIn_r _ [19, 20, 12, 21, 1, 22, 23, 24, 25, 26, 27, 28, 29, 30, 31, 32, 33, 34, 35] (by decide +kernel) (by decide +kernel)
set_option maxRecDepth 20000 in
theorem gX2_piecesOf_X2_split : GoodIn wsX2_piecesOf (wsV RX2 119 RX2 yX2_split wsX2_split) := goodIn_app (goodIn_of _ (by decide +kernel)) ggX2_piecesOf_X2_split
theorem dX2_piecesOf_0 : decode cX2_piecesOf 0 = .ok (.aload_n 0, 1) := by decide +kernel
theorem dX2_piecesOf_1 : decode cX2_piecesOf 1 = .ok (.iload_n 2, 1) := by decide +kernel
theorem dX2_piecesOf_2 : decode cX2_piecesOf 2 = .ok (.iload_n 3, 1) := by decide +kernel
theorem dX2_piecesOf_3 : decode cX2_piecesOf 3 = .ok (.iload_n 1, 1) := by decide +kernel
theorem dX2_piecesOf_4 : decode cX2_piecesOf 4 = .ok (.invokevirtual 112, 3) := by decide +kernel
theorem dX2_piecesOf_7 : decode cX2_piecesOf 7 = .ok (.ifCond .eq 20, 3) := by decide +kernel
theorem dX2_piecesOf_10 : decode cX2_piecesOf 10 = .ok (.aload_n 0, 1) := by decide +kernel
theorem dX2_piecesOf_11 : decode cX2_piecesOf 11 = .ok (.iload_n 1, 1) := by decide +kernel
theorem dX2_piecesOf_12 : decode cX2_piecesOf 12 = .ok (.i2l, 1) := by decide +kernel
theorem dX2_piecesOf_13 : decode cX2_piecesOf 13 = .ok (.aload_n 0, 1) := by decide +kernel
theorem dX2_piecesOf_14 : decode cX2_piecesOf 14 = .ok (.getfield 23, 3) := by decide +kernel
theorem dX2_piecesOf_17 : decode cX2_piecesOf 17 = .ok (.iload_n 2, 1) := by decide +kernel
theorem dX2_piecesOf_18 : decode cX2_piecesOf 18 = .ok (.laload, 1) := by decide +kernel
theorem dX2_piecesOf_19 : decode cX2_piecesOf 19 = .ok (.lmul, 1) := by decide +kernel
theorem dX2_piecesOf_20 : decode cX2_piecesOf 20 = .ok (.iload_n 3, 1) := by decide +kernel
theorem dX2_piecesOf_21 : decode cX2_piecesOf 21 = .ok (.invokevirtual 119, 3) := by decide +kernel
theorem dX2_piecesOf_24 : decode cX2_piecesOf 24 = .ok (.goto 4, 3) := by decide +kernel
theorem dX2_piecesOf_27 : decode cX2_piecesOf 27 = .ok (.lconst 0, 1) := by decide +kernel
theorem dX2_piecesOf_28 : decode cX2_piecesOf 28 = .ok (.lreturn, 1) := by decide +kernel
set_option maxRecDepth 20000 in
theorem ggX2_pieces_X2_can : GoodIn wsX2_pieces wsX2_can := goodIn_r _ [6, 7, 8, 9, 10, 5, 11, 12, 13, 14, 15, 22, 23, 24, 25, 26, 27, 28, 29, 30, 31, 32, 33, 34, 35] (by decide +kernel) (by decide +kernel)
set_option maxRecDepth 20000 in
theorem gX2_pieces_X2_can : GoodIn wsX2_pieces (wsV RX2 112 RX2 yX2_can wsX2_can) := goodIn_app (goodIn_of _ (by decide +kernel)) ggX2_pieces_X2_can
set_option maxRecDepth 20000 in
theorem ggX2_pieces_X2_split : GoodIn wsX2_pieces wsX2_split := goodIn_r _ [19, 20, 12, 21, 1, 22, 23, 24, 25, 26, 27, 28, 29, 30, 31, 32, 33, 34, 35] (by decide +kernel) (by decide +kernel)
set_option maxRecDepth 20000 in
theorem gX2_pieces_X2_split : GoodIn wsX2_pieces (wsV RX2 119 RX2 yX2_split wsX2_split) := goodIn_app (goodIn_of _ (by decide +kernel)) ggX2_pieces_X2_split
theorem dX2_pieces_0 : decode cX2_pieces 0 = .ok (.aload_n 0, 1) := by decide +kernel
theorem dX2_pieces_1 : decode cX2_pieces 1 = .ok (.iload_n 2, 1) := by decide +kernel
theorem dX2_pieces_2 : decode cX2_pieces 2 = .ok (.iload_n 2, 1) := by decide +kernel
theorem dX2_pieces_3 : decode cX2_pieces 3 = .ok (.iload_n 1, 1) := by decide +kernel
theorem dX2_pieces_4 : decode cX2_pieces 4 = .ok (.invokevirtual 112, 3) := by decide +kernel
theorem dX2_pieces_7 : decode cX2_pieces 7 = .ok (.ifCond .eq 20, 3) := by decide +kernel
theorem dX2_pieces_10 : decode cX2_pieces 10 = .ok (.aload_n 0, 1) := by decide +kernel
theorem dX2_pieces_11 : decode cX2_pieces 11 = .ok (.iload_n 1, 1) := by decide +kernel
theorem dX2_pieces_12 : decode cX2_pieces 12 = .ok (.i2l, 1) := by decide +kernel
theorem dX2_pieces_13 : decode cX2_pieces 13 = .ok (.aload_n 0, 1) := by decide +kernel
theorem dX2_pieces_14 : decode cX2_pieces 14 = .ok (.getfield 23, 3) := by decide +kernel
theorem dX2_pieces_17 : decode cX2_pieces 17 = .ok (.iload_n 2, 1) := by decide +kernel
theorem dX2_pieces_18 : decode cX2_pieces 18 = .ok (.laload, 1) := by decide +kernel
theorem dX2_pieces_19 : decode cX2_pieces 19 = .ok (.lmul, 1) := by decide +kernel
theorem dX2_pieces_20 : decode cX2_pieces 20 = .ok (.iconst (-1), 1) := by decide +kernel
theorem dX2_pieces_21 : decode cX2_pieces 21 = .ok (.invokevirtual 119, 3) := by decide +kernel
theorem dX2_pieces_24 : decode cX2_pieces 24 = .ok (.goto 4, 3) := by decide +kernel
theorem dX2_pieces_27 : decode cX2_pieces 27 = .ok (.lconst 0, 1) := by decide +kernel
theorem dX2_pieces_28 : decode cX2_pieces 28 = .ok (.lreturn, 1) := by decide +kernel
set_option maxRecDepth 20000 in
theorem ggX2_tells_X2_split : GoodIn wsX2_tells wsX2_split := goodIn_r _ [7, 2, 8, 9, 1, 10, 11, 12, 13, 14, 15, 16, 17, 18, 19, 20, 21, 22, 23] (by decide +kernel) (by decide +kernel)
set_option maxRecDepth 20000 in
theorem gX2_tells_X2_split : GoodIn wsX2_tells (wsV RX2 119 RX2 yX2_split wsX2_split) := goodIn_app (goodIn_of _ (by decide +kernel)) ggX2_tells_X2_split
theorem dX2_tells_0 : decode cX2_tells 0 = .ok (.aload_n 0, 1) := by decide +kernel
theorem dX2_tells_1 : decode cX2_tells 1 = .ok (.iload_n 1, 1) := by decide +kernel
theorem dX2_tells_2 : decode cX2_tells 2 = .ok (.i2l, 1) := by decide +kernel
theorem dX2_tells_3 : decode cX2_tells 3 = .ok (.aload_n 0, 1) := by decide +kernel
theorem dX2_tells_4 : decode cX2_tells 4 = .ok (.getfield 23, 3) := by decide +kernel
theorem dX2_tells_7 : decode cX2_tells 7 = .ok (.iload_n 2, 1) := by decide +kernel
theorem dX2_tells_8 : decode cX2_tells 8 = .ok (.laload, 1) := by decide +kernel
theorem dX2_tells_9 : decode cX2_tells 9 = .ok (.lmul, 1) := by decide +kernel
theorem dX2_tells_10 : decode cX2_tells 10 = .ok (.iconst (-1), 1) := by decide +kernel
theorem dX2_tells_11 : decode cX2_tells 11 = .ok (.invokevirtual 119, 3) := by decide +kernel
theorem dX2_tells_14 : decode cX2_tells 14 = .ok (.pop2, 1) := by decide +kernel
theorem dX2_tells_15 : decode cX2_tells 15 = .ok (.aload_n 0, 1) := by decide +kernel
theorem dX2_tells_16 : decode cX2_tells 16 = .ok (.getfield 115, 3) := by decide +kernel
theorem dX2_tells_19 : decode cX2_tells 19 = .ok (.lconst 0, 1) := by decide +kernel
theorem dX2_tells_20 : decode cX2_tells 20 = .ok (.lcmp, 1) := by decide +kernel
theorem dX2_tells_21 : decode cX2_tells 21 = .ok (.ifCond .ne 7, 3) := by decide +kernel
theorem dX2_tells_24 : decode cX2_tells 24 = .ok (.iconst 1, 1) := by decide +kernel
theorem dX2_tells_25 : decode cX2_tells 25 = .ok (.goto 4, 3) := by decide +kernel
theorem dX2_tells_28 : decode cX2_tells 28 = .ok (.iconst 0, 1) := by decide +kernel
theorem dX2_tells_29 : decode cX2_tells 29 = .ok (.ireturn, 1) := by decide +kernel
set_option maxRecDepth 20000 in
theorem ggX2_isTold_X2_can : GoodIn wsX2_isTold wsX2_can := goodIn_r _ [5, 6, 7, 8, 9, 4, 10, 11, 12, 13, 14, 26, 27, 28, 29, 30, 31, 32, 33, 34, 35, 36, 37, 38, 39] (by decide +kernel) (by decide +kernel)
set_option maxRecDepth 20000 in
theorem gX2_isTold_X2_can : GoodIn wsX2_isTold (wsV RX2 112 RX2 yX2_can wsX2_can) := goodIn_app (goodIn_of _ (by decide +kernel)) ggX2_isTold_X2_can
set_option maxRecDepth 20000 in
theorem ggX2_isTold_X2_tells : GoodIn wsX2_isTold wsX2_tells := goodIn_r _ [18, 19, 20, 21, 22, 23, 4, 24, 11, 25, 26, 27, 28, 29, 30, 31, 32, 33, 34, 35, 36, 37, 38, 39] (by decide +kernel) (by decide +kernel)
set_option maxRecDepth 20000 in
theorem gX2_isTold_X2_tells : GoodIn wsX2_isTold (wsV RX2 123 RX2 yX2_tells wsX2_tells) := goodIn_app (goodIn_of _ (by decide +kernel)) ggX2_isTold_X2_tells
theorem dX2_isTold_0 : decode cX2_isTold 0 = .ok (.aload_n 0, 1) := by decide +kernel
theorem dX2_isTold_1 : decode cX2_isTold 1 = .ok (.iload_n 2, 1) := by decide +kernel
theorem dX2_isTold_2 : decode cX2_isTold 2 = .ok (.iload_n 2, 1) := by decide +kernel
theorem dX2_isTold_3 : decode cX2_isTold 3 = .ok (.iload_n 1, 1) := by decide +kernel
theorem dX2_isTold_4 : decode cX2_isTold 4 = .ok (.invokevirtual 112, 3) := by decide +kernel
theorem dX2_isTold_7 : decode cX2_isTold 7 = .ok (.ifCond .eq 16, 3) := by decide +kernel
theorem dX2_isTold_10 : decode cX2_isTold 10 = .ok (.aload_n 0, 1) := by decide +kernel
theorem dX2_isTold_11 : decode cX2_isTold 11 = .ok (.iload_n 1, 1) := by decide +kernel
theorem dX2_isTold_12 : decode cX2_isTold 12 = .ok (.iload_n 2, 1) := by decide +kernel
theorem dX2_isTold_13 : decode cX2_isTold 13 = .ok (.invokevirtual 123, 3) := by decide +kernel
theorem dX2_isTold_16 : decode cX2_isTold 16 = .ok (.ifCond .eq 7, 3) := by decide +kernel
theorem dX2_isTold_19 : decode cX2_isTold 19 = .ok (.iconst 1, 1) := by decide +kernel
theorem dX2_isTold_20 : decode cX2_isTold 20 = .ok (.goto 4, 3) := by decide +kernel
theorem dX2_isTold_23 : decode cX2_isTold 23 = .ok (.iconst 0, 1) := by decide +kernel
theorem dX2_isTold_24 : decode cX2_isTold 24 = .ok (.ireturn, 1) := by decide +kernel
theorem dX2_best_0 : decode cX2_best 0 = .ok (.iconst 0, 1) := by decide +kernel
theorem dX2_best_1 : decode cX2_best 1 = .ok (.istore_n 3, 1) := by decide +kernel
theorem dX2_best_2 : decode cX2_best 2 = .ok (.iload_n 1, 1) := by decide +kernel
theorem dX2_best_3 : decode cX2_best 3 = .ok (.i2l, 1) := by decide +kernel
theorem dX2_best_4 : decode cX2_best 4 = .ok (.aload_n 0, 1) := by decide +kernel
theorem dX2_best_5 : decode cX2_best 5 = .ok (.getfield 23, 3) := by decide +kernel
theorem dX2_best_8 : decode cX2_best 8 = .ok (.iload_n 2, 1) := by decide +kernel
theorem dX2_best_9 : decode cX2_best 9 = .ok (.laload, 1) := by decide +kernel
theorem dX2_best_10 : decode cX2_best 10 = .ok (.lmul, 1) := by decide +kernel
theorem dX2_best_11 : decode cX2_best 11 = .ok (.aload_n 0, 1) := by decide +kernel
theorem dX2_best_12 : decode cX2_best 12 = .ok (.getfield 23, 3) := by decide +kernel
theorem dX2_best_15 : decode cX2_best 15 = .ok (.aload_n 0, 1) := by decide +kernel
theorem dX2_best_16 : decode cX2_best 16 = .ok (.getfield 27, 3) := by decide +kernel
theorem dX2_best_19 : decode cX2_best 19 = .ok (.iload_n 3, 1) := by decide +kernel
theorem dX2_best_20 : decode cX2_best 20 = .ok (.iaload, 1) := by decide +kernel
theorem dX2_best_21 : decode cX2_best 21 = .ok (.laload, 1) := by decide +kernel
theorem dX2_best_22 : decode cX2_best 22 = .ok (.lrem, 1) := by decide +kernel
theorem dX2_best_23 : decode cX2_best 23 = .ok (.lconst 0, 1) := by decide +kernel
theorem dX2_best_24 : decode cX2_best 24 = .ok (.lcmp, 1) := by decide +kernel
theorem dX2_best_25 : decode cX2_best 25 = .ok (.ifCond .eq 9, 3) := by decide +kernel
theorem dX2_best_28 : decode cX2_best 28 = .ok (.iinc 3 1, 3) := by decide +kernel
theorem dX2_best_31 : decode cX2_best 31 = .ok (.goto (-29), 3) := by decide +kernel
theorem dX2_best_34 : decode cX2_best 34 = .ok (.aload_n 0, 1) := by decide +kernel
theorem dX2_best_35 : decode cX2_best 35 = .ok (.getfield 27, 3) := by decide +kernel
theorem dX2_best_38 : decode cX2_best 38 = .ok (.iload_n 3, 1) := by decide +kernel
theorem dX2_best_39 : decode cX2_best 39 = .ok (.iaload, 1) := by decide +kernel
theorem dX2_best_40 : decode cX2_best 40 = .ok (.ireturn, 1) := by decide +kernel
set_option maxRecDepth 20000 in
theorem ggX2_bestMeasure_X2_can : GoodIn wsX2_bestMeasure wsX2_can := goodIn_r _ [5, 6, 7, 8, 9, 4, 10, 11, 12, 13, 14, 21, 22, 23, 24, 25, 26, 27, 28, 29, 30, 31, 32, 33, 34] (by decide +kernel) (by decide +kernel)
set_option maxRecDepth 20000 in
theorem gX2_bestMeasure_X2_can : GoodIn wsX2_bestMeasure (wsV RX2 112 RX2 yX2_can wsX2_can) := goodIn_app (goodIn_of _ (by decide +kernel)) ggX2_bestMeasure_X2_can
set_option maxRecDepth 20000 in
theorem ggX2_bestMeasure_X2_best : GoodIn wsX2_bestMeasure wsX2_best := goodIn_r _ [18, 19, 20, 21, 22, 23, 24, 25, 26, 27, 28, 29, 30, 31, 32, 33, 34] (by decide +kernel) (by decide +kernel)
set_option maxRecDepth 20000 in
theorem gX2_bestMeasure_X2_best : GoodIn wsX2_bestMeasure (wsV RX2 127 RX2 yX2_best wsX2_best) := goodIn_app (goodIn_of _ (by decide +kernel)) ggX2_bestMeasure_X2_best
theorem dX2_bestMeasure_0 : decode cX2_bestMeasure 0 = .ok (.aload_n 0, 1) := by decide +kernel
theorem dX2_bestMeasure_1 : decode cX2_bestMeasure 1 = .ok (.iload_n 2, 1) := by decide +kernel
theorem dX2_bestMeasure_2 : decode cX2_bestMeasure 2 = .ok (.iload_n 2, 1) := by decide +kernel
theorem dX2_bestMeasure_3 : decode cX2_bestMeasure 3 = .ok (.iload_n 1, 1) := by decide +kernel
theorem dX2_bestMeasure_4 : decode cX2_bestMeasure 4 = .ok (.invokevirtual 112, 3) := by decide +kernel
theorem dX2_bestMeasure_7 : decode cX2_bestMeasure 7 = .ok (.ifCond .eq 12, 3) := by decide +kernel
theorem dX2_bestMeasure_10 : decode cX2_bestMeasure 10 = .ok (.aload_n 0, 1) := by decide +kernel
theorem dX2_bestMeasure_11 : decode cX2_bestMeasure 11 = .ok (.iload_n 1, 1) := by decide +kernel
theorem dX2_bestMeasure_12 : decode cX2_bestMeasure 12 = .ok (.iload_n 2, 1) := by decide +kernel
theorem dX2_bestMeasure_13 : decode cX2_bestMeasure 13 = .ok (.invokevirtual 127, 3) := by decide +kernel
theorem dX2_bestMeasure_16 : decode cX2_bestMeasure 16 = .ok (.goto 4, 3) := by decide +kernel
theorem dX2_bestMeasure_19 : decode cX2_bestMeasure 19 = .ok (.iconst 0, 1) := by decide +kernel
theorem dX2_bestMeasure_20 : decode cX2_bestMeasure 20 = .ok (.ireturn, 1) := by decide +kernel
set_option maxRecDepth 20000 in
theorem ggX2_driftOf_X2_isStall : GoodIn wsX2_driftOf wsX2_isStall := goodIn_r _ [7, 8, 9, 10, 6, 11, 16, 17, 18, 19, 20, 21, 22, 23, 24, 25, 26, 27, 28, 29] (by decide +kernel) (by decide +kernel)
set_option maxRecDepth 20000 in
theorem gX2_driftOf_X2_isStall : GoodIn wsX2_driftOf (wsV RX2 91 RX2 yX2_isStall wsX2_isStall) := goodIn_app (goodIn_of _ (by decide +kernel)) ggX2_driftOf_X2_isStall
set_option maxRecDepth 20000 in
theorem ggX2_driftOf_X2_fail : GoodIn wsX2_driftOf wsX2_fail := goodIn_r _ [15, 1, 16, 17, 18, 19, 20, 21, 22, 23, 24, 25, 26, 27, 28, 29] (by decide +kernel) (by decide +kernel)
set_option maxRecDepth 20000 in
theorem gX2_driftOf_X2_fail : GoodIn wsX2_driftOf (wsV RX2 82 RX2 yX2_fail wsX2_fail) := goodIn_app (goodIn_of _ (by decide +kernel)) ggX2_driftOf_X2_fail
theorem dX2_driftOf_0 : decode cX2_driftOf 0 = .ok (.aload_n 0, 1) := by decide +kernel
theorem dX2_driftOf_1 : decode cX2_driftOf 1 = .ok (.iconst 0, 1) := by decide +kernel
theorem dX2_driftOf_2 : decode cX2_driftOf 2 = .ok (.putfield 42, 3) := by decide +kernel
theorem dX2_driftOf_5 : decode cX2_driftOf 5 = .ok (.aload_n 0, 1) := by decide +kernel
theorem dX2_driftOf_6 : decode cX2_driftOf 6 = .ok (.iload_n 1, 1) := by decide +kernel
theorem dX2_driftOf_7 : decode cX2_driftOf 7 = .ok (.invokevirtual 91, 3) := by decide +kernel
theorem dX2_driftOf_10 : decode cX2_driftOf 10 = .ok (.ifCond .eq 14, 3) := by decide +kernel
theorem dX2_driftOf_13 : decode cX2_driftOf 13 = .ok (.aload_n 0, 1) := by decide +kernel
theorem dX2_driftOf_14 : decode cX2_driftOf 14 = .ok (.getfield 36, 3) := by decide +kernel
theorem dX2_driftOf_17 : decode cX2_driftOf 17 = .ok (.iconst 2, 1) := by decide +kernel
theorem dX2_driftOf_18 : decode cX2_driftOf 18 = .ok (.iload_n 1, 1) := by decide +kernel
theorem dX2_driftOf_19 : decode cX2_driftOf 19 = .ok (.iadd, 1) := by decide +kernel
theorem dX2_driftOf_20 : decode cX2_driftOf 20 = .ok (.iaload, 1) := by decide +kernel
theorem dX2_driftOf_21 : decode cX2_driftOf 21 = .ok (.goto 8, 3) := by decide +kernel
theorem dX2_driftOf_24 : decode cX2_driftOf 24 = .ok (.aload_n 0, 1) := by decide +kernel
theorem dX2_driftOf_25 : decode cX2_driftOf 25 = .ok (.iconst 1, 1) := by decide +kernel
theorem dX2_driftOf_26 : decode cX2_driftOf 26 = .ok (.invokevirtual 82, 3) := by decide +kernel
theorem dX2_driftOf_29 : decode cX2_driftOf 29 = .ok (.ireturn, 1) := by decide +kernel
set_option maxRecDepth 20000 in
theorem ggX2_wearOf_X2_isStall : GoodIn wsX2_wearOf wsX2_isStall := goodIn_r _ [7, 8, 9, 10, 6, 11, 16, 17, 18, 19, 20, 21, 22, 23, 24, 25, 26, 27, 28, 29] (by decide +kernel) (by decide +kernel)
set_option maxRecDepth 20000 in
theorem gX2_wearOf_X2_isStall : GoodIn wsX2_wearOf (wsV RX2 91 RX2 yX2_isStall wsX2_isStall) := goodIn_app (goodIn_of _ (by decide +kernel)) ggX2_wearOf_X2_isStall
set_option maxRecDepth 20000 in
theorem ggX2_wearOf_X2_fail : GoodIn wsX2_wearOf wsX2_fail := goodIn_r _ [15, 1, 16, 17, 18, 19, 20, 21, 22, 23, 24, 25, 26, 27, 28, 29] (by decide +kernel) (by decide +kernel)
set_option maxRecDepth 20000 in
theorem gX2_wearOf_X2_fail : GoodIn wsX2_wearOf (wsV RX2 82 RX2 yX2_fail wsX2_fail) := goodIn_app (goodIn_of _ (by decide +kernel)) ggX2_wearOf_X2_fail
theorem dX2_wearOf_0 : decode cX2_wearOf 0 = .ok (.aload_n 0, 1) := by decide +kernel
theorem dX2_wearOf_1 : decode cX2_wearOf 1 = .ok (.iconst 0, 1) := by decide +kernel
theorem dX2_wearOf_2 : decode cX2_wearOf 2 = .ok (.putfield 42, 3) := by decide +kernel
theorem dX2_wearOf_5 : decode cX2_wearOf 5 = .ok (.aload_n 0, 1) := by decide +kernel
theorem dX2_wearOf_6 : decode cX2_wearOf 6 = .ok (.iload_n 1, 1) := by decide +kernel
theorem dX2_wearOf_7 : decode cX2_wearOf 7 = .ok (.invokevirtual 91, 3) := by decide +kernel
theorem dX2_wearOf_10 : decode cX2_wearOf 10 = .ok (.ifCond .eq 12, 3) := by decide +kernel
theorem dX2_wearOf_13 : decode cX2_wearOf 13 = .ok (.aload_n 0, 1) := by decide +kernel
theorem dX2_wearOf_14 : decode cX2_wearOf 14 = .ok (.getfield 30, 3) := by decide +kernel
theorem dX2_wearOf_17 : decode cX2_wearOf 17 = .ok (.iload_n 1, 1) := by decide +kernel
theorem dX2_wearOf_18 : decode cX2_wearOf 18 = .ok (.iaload, 1) := by decide +kernel
theorem dX2_wearOf_19 : decode cX2_wearOf 19 = .ok (.goto 8, 3) := by decide +kernel
theorem dX2_wearOf_22 : decode cX2_wearOf 22 = .ok (.aload_n 0, 1) := by decide +kernel
theorem dX2_wearOf_23 : decode cX2_wearOf 23 = .ok (.iconst 1, 1) := by decide +kernel
theorem dX2_wearOf_24 : decode cX2_wearOf 24 = .ok (.invokevirtual 82, 3) := by decide +kernel
theorem dX2_wearOf_27 : decode cX2_wearOf 27 = .ok (.ireturn, 1) := by decide +kernel
set_option maxRecDepth 20000 in
theorem ggX2_isHonest_X2_isStall : GoodIn wsX2_isHonest wsX2_isStall := goodIn_r _ [6, 7, 8, 9, 5, 10, 21, 22, 23, 24, 25, 26, 27, 28, 29, 30, 31, 32, 33, 34] (by decide +kernel) (by decide +kernel)
set_option maxRecDepth 20000 in
theorem gX2_isHonest_X2_isStall : GoodIn wsX2_isHonest (wsV RX2 91 RX2 yX2_isStall wsX2_isStall) := goodIn_app (goodIn_of _ (by decide +kernel)) ggX2_isHonest_X2_isStall
set_option maxRecDepth 20000 in
theorem ggX2_isHonest_X2_honest : GoodIn wsX2_isHonest wsX2_honest := goodIn_r _ [14, 15, 16, 17, 18, 19, 20, 21, 22, 23, 24, 25, 26, 27, 28, 29, 30, 31, 32, 33, 34] (by decide +kernel) (by decide +kernel)
set_option maxRecDepth 20000 in
theorem gX2_isHonest_X2_honest : GoodIn wsX2_isHonest (wsV RX2 71 RX2 yX2_honest wsX2_honest) := goodIn_app (goodIn_of _ (by decide +kernel)) ggX2_isHonest_X2_honest
theorem dX2_isHonest_0 : decode cX2_isHonest 0 = .ok (.aload_n 0, 1) := by decide +kernel
theorem dX2_isHonest_1 : decode cX2_isHonest 1 = .ok (.aload_n 0, 1) := by decide +kernel
theorem dX2_isHonest_2 : decode cX2_isHonest 2 = .ok (.iload_n 1, 1) := by decide +kernel
theorem dX2_isHonest_3 : decode cX2_isHonest 3 = .ok (.invokevirtual 91, 3) := by decide +kernel
theorem dX2_isHonest_6 : decode cX2_isHonest 6 = .ok (.ifCond .eq 7, 3) := by decide +kernel
theorem dX2_isHonest_9 : decode cX2_isHonest 9 = .ok (.iconst 0, 1) := by decide +kernel
theorem dX2_isHonest_10 : decode cX2_isHonest 10 = .ok (.goto 4, 3) := by decide +kernel
theorem dX2_isHonest_13 : decode cX2_isHonest 13 = .ok (.iconst 1, 1) := by decide +kernel
theorem dX2_isHonest_14 : decode cX2_isHonest 14 = .ok (.putfield 42, 3) := by decide +kernel
theorem dX2_isHonest_17 : decode cX2_isHonest 17 = .ok (.aload_n 0, 1) := by decide +kernel
theorem dX2_isHonest_18 : decode cX2_isHonest 18 = .ok (.getfield 42, 3) := by decide +kernel
theorem dX2_isHonest_21 : decode cX2_isHonest 21 = .ok (.ifCond .ne 15, 3) := by decide +kernel
theorem dX2_isHonest_24 : decode cX2_isHonest 24 = .ok (.aload_n 0, 1) := by decide +kernel
theorem dX2_isHonest_25 : decode cX2_isHonest 25 = .ok (.iload_n 1, 1) := by decide +kernel
theorem dX2_isHonest_26 : decode cX2_isHonest 26 = .ok (.invokevirtual 71, 3) := by decide +kernel
theorem dX2_isHonest_29 : decode cX2_isHonest 29 = .ok (.ifCond .eq 7, 3) := by decide +kernel
theorem dX2_isHonest_32 : decode cX2_isHonest 32 = .ok (.iconst 1, 1) := by decide +kernel
theorem dX2_isHonest_33 : decode cX2_isHonest 33 = .ok (.goto 4, 3) := by decide +kernel
theorem dX2_isHonest_36 : decode cX2_isHonest 36 = .ok (.iconst 0, 1) := by decide +kernel
theorem dX2_isHonest_37 : decode cX2_isHonest 37 = .ok (.ireturn, 1) := by decide +kernel
set_option maxRecDepth 20000 in
theorem ggX2_gets_X2_top : GoodIn wsX2_gets wsX2_top := goodIn_r _ [6, 7, 8, 9, 5, 10, 11, 12, 13, 14, 15, 16, 17, 18, 19, 20, 21, 22, 23, 24] (by decide +kernel) (by decide +kernel)
set_option maxRecDepth 20000 in
theorem gX2_gets_X2_top : GoodIn wsX2_gets (wsV RX2 105 RX2 yX2_top wsX2_top) := goodIn_app (goodIn_of _ (by decide +kernel)) ggX2_gets_X2_top
theorem dX2_gets_0 : decode cX2_gets 0 = .ok (.iload_n 1, 1) := by decide +kernel
theorem dX2_gets_1 : decode cX2_gets 1 = .ok (.i2l, 1) := by decide +kernel
theorem dX2_gets_2 : decode cX2_gets 2 = .ok (.aload_n 0, 1) := by decide +kernel
theorem dX2_gets_3 : decode cX2_gets 3 = .ok (.iload_n 2, 1) := by decide +kernel
theorem dX2_gets_4 : decode cX2_gets 4 = .ok (.aload_n 0, 1) := by decide +kernel
theorem dX2_gets_5 : decode cX2_gets 5 = .ok (.getfield 88, 3) := by decide +kernel
theorem dX2_gets_8 : decode cX2_gets 8 = .ok (.invokevirtual 105, 3) := by decide +kernel
theorem dX2_gets_11 : decode cX2_gets 11 = .ok (.lmul, 1) := by decide +kernel
theorem dX2_gets_12 : decode cX2_gets 12 = .ok (.sipush 1000, 3) := by decide +kernel
theorem dX2_gets_15 : decode cX2_gets 15 = .ok (.iload_n 3, 1) := by decide +kernel
theorem dX2_gets_16 : decode cX2_gets 16 = .ok (.iadd, 1) := by decide +kernel
theorem dX2_gets_17 : decode cX2_gets 17 = .ok (.i2l, 1) := by decide +kernel
theorem dX2_gets_18 : decode cX2_gets 18 = .ok (.lmul, 1) := by decide +kernel
theorem dX2_gets_19 : decode cX2_gets 19 = .ok (.aload_n 0, 1) := by decide +kernel
theorem dX2_gets_20 : decode cX2_gets 20 = .ok (.aload_n 0, 1) := by decide +kernel
theorem dX2_gets_21 : decode cX2_gets 21 = .ok (.getfield 88, 3) := by decide +kernel
theorem dX2_gets_24 : decode cX2_gets 24 = .ok (.iload_n 2, 1) := by decide +kernel
theorem dX2_gets_25 : decode cX2_gets 25 = .ok (.invokevirtual 105, 3) := by decide +kernel
theorem dX2_gets_28 : decode cX2_gets 28 = .ok (.ldiv, 1) := by decide +kernel
theorem dX2_gets_29 : decode cX2_gets 29 = .ok (.lreturn, 1) := by decide +kernel
set_option maxRecDepth 20000 in
theorem ggX2_canGet_X2_isStall : GoodIn wsX2_canGet wsX2_isStall := goodIn_r _ [6, 7, 8, 9, 5, 10, 16, 17, 18, 19, 20, 21, 22, 23, 24, 25, 26, 27, 28, 29] (by decide +kernel) (by decide +kernel)
set_option maxRecDepth 20000 in
theorem gX2_canGet_X2_isStall : GoodIn wsX2_canGet (wsV RX2 91 RX2 yX2_isStall wsX2_isStall) := goodIn_app (goodIn_of _ (by decide +kernel)) ggX2_canGet_X2_isStall
set_option maxRecDepth 20000 in
theorem ggX2_canGet_X2_isMeasure : GoodIn wsX2_canGet wsX2_isMeasure := goodIn_r _ [14, 15, 8, 9, 5, 10, 16, 17, 18, 19, 20, 21, 22, 23, 24, 25, 26, 27, 28, 29] (by decide +kernel) (by decide +kernel)
set_option maxRecDepth 20000 in
theorem gX2_canGet_X2_isMeasure : GoodIn wsX2_canGet (wsV RX2 79 RX2 yX2_isMeasure wsX2_isMeasure) := goodIn_app (goodIn_of _ (by decide +kernel)) ggX2_canGet_X2_isMeasure
set_option maxRecDepth 20000 in
theorem ggX2_canGet_X2_isIn : GoodIn wsX2_canGet wsX2_isIn := goodIn_r _ [10] (by decide +kernel) (by decide +kernel)
set_option maxRecDepth 20000 in
theorem gX2_canGet_X2_isIn : GoodIn wsX2_canGet (va_wsS RX2 45 yX2_isIn wsX2_isIn) := goodIn_app (goodIn_of _ (by decide +kernel)) ggX2_canGet_X2_isIn
theorem dX2_canGet_0 : decode cX2_canGet 0 = .ok (.aload_n 0, 1) := by decide +kernel
theorem dX2_canGet_1 : decode cX2_canGet 1 = .ok (.aload_n 0, 1) := by decide +kernel
theorem dX2_canGet_2 : decode cX2_canGet 2 = .ok (.iload_n 1, 1) := by decide +kernel
theorem dX2_canGet_3 : decode cX2_canGet 3 = .ok (.invokevirtual 91, 3) := by decide +kernel
theorem dX2_canGet_6 : decode cX2_canGet 6 = .ok (.ifCond .eq 11, 3) := by decide +kernel
theorem dX2_canGet_9 : decode cX2_canGet 9 = .ok (.aload_n 0, 1) := by decide +kernel
theorem dX2_canGet_10 : decode cX2_canGet 10 = .ok (.iload_n 3, 1) := by decide +kernel
theorem dX2_canGet_11 : decode cX2_canGet 11 = .ok (.invokevirtual 79, 3) := by decide +kernel
theorem dX2_canGet_14 : decode cX2_canGet 14 = .ok (.ifCond .ne 7, 3) := by decide +kernel
theorem dX2_canGet_17 : decode cX2_canGet 17 = .ok (.iconst 1, 1) := by decide +kernel
theorem dX2_canGet_18 : decode cX2_canGet 18 = .ok (.goto 19, 3) := by decide +kernel
theorem dX2_canGet_21 : decode cX2_canGet 21 = .ok (.iload_n 2, 1) := by decide +kernel
theorem dX2_canGet_22 : decode cX2_canGet 22 = .ok (.iconst 1, 1) := by decide +kernel
theorem dX2_canGet_23 : decode cX2_canGet 23 = .ok (.sipush 200, 3) := by decide +kernel
theorem dX2_canGet_26 : decode cX2_canGet 26 = .ok (.invokestatic 45, 3) := by decide +kernel
theorem dX2_canGet_29 : decode cX2_canGet 29 = .ok (.ifCond .eq 7, 3) := by decide +kernel
theorem dX2_canGet_32 : decode cX2_canGet 32 = .ok (.iconst 0, 1) := by decide +kernel
theorem dX2_canGet_33 : decode cX2_canGet 33 = .ok (.goto 4, 3) := by decide +kernel
theorem dX2_canGet_36 : decode cX2_canGet 36 = .ok (.iconst 2, 1) := by decide +kernel
theorem dX2_canGet_37 : decode cX2_canGet 37 = .ok (.putfield 42, 3) := by decide +kernel
theorem dX2_canGet_40 : decode cX2_canGet 40 = .ok (.aload_n 0, 1) := by decide +kernel
theorem dX2_canGet_41 : decode cX2_canGet 41 = .ok (.getfield 42, 3) := by decide +kernel
theorem dX2_canGet_44 : decode cX2_canGet 44 = .ok (.ifCond .ne 7, 3) := by decide +kernel
theorem dX2_canGet_47 : decode cX2_canGet 47 = .ok (.iconst 1, 1) := by decide +kernel
theorem dX2_canGet_48 : decode cX2_canGet 48 = .ok (.goto 4, 3) := by decide +kernel
theorem dX2_canGet_51 : decode cX2_canGet 51 = .ok (.iconst 0, 1) := by decide +kernel
theorem dX2_canGet_52 : decode cX2_canGet 52 = .ok (.ireturn, 1) := by decide +kernel
set_option maxRecDepth 20000 in
theorem ggX2_getsAt_X2_canGet : GoodIn wsX2_getsAt wsX2_canGet := goodIn_r _ [6, 7, 8, 9, 10, 5, 11, 12, 13, 14, 15, 16, 17, 18, 19, 20, 34, 35, 36, 37, 38, 39, 40, 41, 42, 43, 44, 45, 46, 47] (by decide +kernel) (by decide +kernel)
set_option maxRecDepth 20000 in
theorem gX2_getsAt_X2_canGet : GoodIn wsX2_getsAt (wsV RX2 130 RX2 yX2_canGet wsX2_canGet) := goodIn_app (goodIn_of _ (by decide +kernel)) ggX2_getsAt_X2_canGet
set_option maxRecDepth 20000 in
theorem ggX2_getsAt_X2_gets : GoodIn wsX2_getsAt wsX2_gets := goodIn_r _ [24, 25, 26, 27, 28, 5, 29, 30, 31, 32, 33, 34, 35, 36, 37, 38, 39, 40, 41, 42, 43, 44, 45, 46, 47] (by decide +kernel) (by decide +kernel)
set_option maxRecDepth 20000 in
theorem gX2_getsAt_X2_gets : GoodIn wsX2_getsAt (wsV RX2 133 RX2 yX2_gets wsX2_gets) := goodIn_app (goodIn_of _ (by decide +kernel)) ggX2_getsAt_X2_gets
theorem dX2_getsAt_0 : decode cX2_getsAt 0 = .ok (.aload_n 0, 1) := by decide +kernel
theorem dX2_getsAt_1 : decode cX2_getsAt 1 = .ok (.iload_n 1, 1) := by decide +kernel
theorem dX2_getsAt_2 : decode cX2_getsAt 2 = .ok (.iload_n 2, 1) := by decide +kernel
theorem dX2_getsAt_3 : decode cX2_getsAt 3 = .ok (.iload_n 3, 1) := by decide +kernel
theorem dX2_getsAt_4 : decode cX2_getsAt 4 = .ok (.invokevirtual 130, 3) := by decide +kernel
theorem dX2_getsAt_7 : decode cX2_getsAt 7 = .ok (.ifCond .eq 20, 3) := by decide +kernel
theorem dX2_getsAt_10 : decode cX2_getsAt 10 = .ok (.aload_n 0, 1) := by decide +kernel
theorem dX2_getsAt_11 : decode cX2_getsAt 11 = .ok (.iload_n 2, 1) := by decide +kernel
theorem dX2_getsAt_12 : decode cX2_getsAt 12 = .ok (.iload_n 3, 1) := by decide +kernel
theorem dX2_getsAt_13 : decode cX2_getsAt 13 = .ok (.aload_n 0, 1) := by decide +kernel
theorem dX2_getsAt_14 : decode cX2_getsAt 14 = .ok (.getfield 36, 3) := by decide +kernel
theorem dX2_getsAt_17 : decode cX2_getsAt 17 = .ok (.iconst 2, 1) := by decide +kernel
theorem dX2_getsAt_18 : decode cX2_getsAt 18 = .ok (.iload_n 1, 1) := by decide +kernel
theorem dX2_getsAt_19 : decode cX2_getsAt 19 = .ok (.iadd, 1) := by decide +kernel
theorem dX2_getsAt_20 : decode cX2_getsAt 20 = .ok (.iaload, 1) := by decide +kernel
theorem dX2_getsAt_21 : decode cX2_getsAt 21 = .ok (.invokevirtual 133, 3) := by decide +kernel
theorem dX2_getsAt_24 : decode cX2_getsAt 24 = .ok (.goto 4, 3) := by decide +kernel
theorem dX2_getsAt_27 : decode cX2_getsAt 27 = .ok (.lconst 0, 1) := by decide +kernel
theorem dX2_getsAt_28 : decode cX2_getsAt 28 = .ok (.lreturn, 1) := by decide +kernel
set_option maxRecDepth 20000 in
theorem ggX2_lossAt_X2_canGet : GoodIn wsX2_lossAt wsX2_canGet := goodIn_r _ [6, 7, 8, 9, 10, 5, 11, 12, 13, 14, 15, 16, 17, 18, 19, 20, 34, 35, 36, 37, 38, 39, 40, 41, 42, 43, 44, 45, 46, 47] (by decide +kernel) (by decide +kernel)
set_option maxRecDepth 20000 in
theorem gX2_lossAt_X2_canGet : GoodIn wsX2_lossAt (wsV RX2 130 RX2 yX2_canGet wsX2_canGet) := goodIn_app (goodIn_of _ (by decide +kernel)) ggX2_lossAt_X2_canGet
set_option maxRecDepth 20000 in
theorem ggX2_lossAt_X2_gets : GoodIn wsX2_lossAt wsX2_gets := goodIn_r _ [24, 25, 26, 27, 28, 5, 29, 30, 31, 32, 33, 34, 35, 36, 37, 38, 39, 40, 41, 42, 43, 44, 45, 46, 47] (by decide +kernel) (by decide +kernel)
set_option maxRecDepth 20000 in
theorem gX2_lossAt_X2_gets : GoodIn wsX2_lossAt (wsV RX2 133 RX2 yX2_gets wsX2_gets) := goodIn_app (goodIn_of _ (by decide +kernel)) ggX2_lossAt_X2_gets
theorem dX2_lossAt_0 : decode cX2_lossAt 0 = .ok (.aload_n 0, 1) := by decide +kernel
theorem dX2_lossAt_1 : decode cX2_lossAt 1 = .ok (.iload_n 1, 1) := by decide +kernel
theorem dX2_lossAt_2 : decode cX2_lossAt 2 = .ok (.iload_n 2, 1) := by decide +kernel
theorem dX2_lossAt_3 : decode cX2_lossAt 3 = .ok (.iload_n 3, 1) := by decide +kernel
theorem dX2_lossAt_4 : decode cX2_lossAt 4 = .ok (.invokevirtual 130, 3) := by decide +kernel
theorem dX2_lossAt_7 : decode cX2_lossAt 7 = .ok (.ifCond .eq 28, 3) := by decide +kernel
theorem dX2_lossAt_10 : decode cX2_lossAt 10 = .ok (.aload_n 0, 1) := by decide +kernel
theorem dX2_lossAt_11 : decode cX2_lossAt 11 = .ok (.iload_n 2, 1) := by decide +kernel
theorem dX2_lossAt_12 : decode cX2_lossAt 12 = .ok (.iload_n 3, 1) := by decide +kernel
theorem dX2_lossAt_13 : decode cX2_lossAt 13 = .ok (.iconst 0, 1) := by decide +kernel
theorem dX2_lossAt_14 : decode cX2_lossAt 14 = .ok (.invokevirtual 133, 3) := by decide +kernel
theorem dX2_lossAt_17 : decode cX2_lossAt 17 = .ok (.aload_n 0, 1) := by decide +kernel
theorem dX2_lossAt_18 : decode cX2_lossAt 18 = .ok (.iload_n 2, 1) := by decide +kernel
theorem dX2_lossAt_19 : decode cX2_lossAt 19 = .ok (.iload_n 3, 1) := by decide +kernel
theorem dX2_lossAt_20 : decode cX2_lossAt 20 = .ok (.aload_n 0, 1) := by decide +kernel
theorem dX2_lossAt_21 : decode cX2_lossAt 21 = .ok (.getfield 36, 3) := by decide +kernel
theorem dX2_lossAt_24 : decode cX2_lossAt 24 = .ok (.iconst 2, 1) := by decide +kernel
theorem dX2_lossAt_25 : decode cX2_lossAt 25 = .ok (.iload_n 1, 1) := by decide +kernel
theorem dX2_lossAt_26 : decode cX2_lossAt 26 = .ok (.iadd, 1) := by decide +kernel
theorem dX2_lossAt_27 : decode cX2_lossAt 27 = .ok (.iaload, 1) := by decide +kernel
theorem dX2_lossAt_28 : decode cX2_lossAt 28 = .ok (.invokevirtual 133, 3) := by decide +kernel
theorem dX2_lossAt_31 : decode cX2_lossAt 31 = .ok (.lsub, 1) := by decide +kernel
theorem dX2_lossAt_32 : decode cX2_lossAt 32 = .ok (.goto 4, 3) := by decide +kernel
theorem dX2_lossAt_35 : decode cX2_lossAt 35 = .ok (.lconst 0, 1) := by decide +kernel
theorem dX2_lossAt_36 : decode cX2_lossAt 36 = .ok (.lreturn, 1) := by decide +kernel
theorem dX2_truest_0 : decode cX2_truest 0 = .ok (.iconst (-1), 1) := by decide +kernel
theorem dX2_truest_1 : decode cX2_truest 1 = .ok (.istore_n 1, 1) := by decide +kernel
theorem dX2_truest_2 : decode cX2_truest 2 = .ok (.iconst 0, 1) := by decide +kernel
theorem dX2_truest_3 : decode cX2_truest 3 = .ok (.istore_n 2, 1) := by decide +kernel
theorem dX2_truest_4 : decode cX2_truest 4 = .ok (.iload_n 2, 1) := by decide +kernel
theorem dX2_truest_5 : decode cX2_truest 5 = .ok (.aload_n 0, 1) := by decide +kernel
theorem dX2_truest_6 : decode cX2_truest 6 = .ok (.getfield 49, 3) := by decide +kernel
theorem dX2_truest_9 : decode cX2_truest 9 = .ok (.if_icmp .ge 41, 3) := by decide +kernel
theorem dX2_truest_12 : decode cX2_truest 12 = .ok (.iload_n 1, 1) := by decide +kernel
theorem dX2_truest_13 : decode cX2_truest 13 = .ok (.iconst (-1), 1) := by decide +kernel
theorem dX2_truest_14 : decode cX2_truest 14 = .ok (.if_icmp .eq 28, 3) := by decide +kernel
theorem dX2_truest_17 : decode cX2_truest 17 = .ok (.aload_n 0, 1) := by decide +kernel
theorem dX2_truest_18 : decode cX2_truest 18 = .ok (.getfield 36, 3) := by decide +kernel
theorem dX2_truest_21 : decode cX2_truest 21 = .ok (.iconst 2, 1) := by decide +kernel
theorem dX2_truest_22 : decode cX2_truest 22 = .ok (.iload_n 2, 1) := by decide +kernel
theorem dX2_truest_23 : decode cX2_truest 23 = .ok (.iadd, 1) := by decide +kernel
theorem dX2_truest_24 : decode cX2_truest 24 = .ok (.iaload, 1) := by decide +kernel
theorem dX2_truest_25 : decode cX2_truest 25 = .ok (.invokestatic 58, 3) := by decide +kernel
theorem dX2_truest_28 : decode cX2_truest 28 = .ok (.aload_n 0, 1) := by decide +kernel
theorem dX2_truest_29 : decode cX2_truest 29 = .ok (.getfield 36, 3) := by decide +kernel
theorem dX2_truest_32 : decode cX2_truest 32 = .ok (.iconst 2, 1) := by decide +kernel
theorem dX2_truest_33 : decode cX2_truest 33 = .ok (.iload_n 1, 1) := by decide +kernel
theorem dX2_truest_34 : decode cX2_truest 34 = .ok (.iadd, 1) := by decide +kernel
theorem dX2_truest_35 : decode cX2_truest 35 = .ok (.iaload, 1) := by decide +kernel
theorem dX2_truest_36 : decode cX2_truest 36 = .ok (.invokestatic 58, 3) := by decide +kernel
theorem dX2_truest_39 : decode cX2_truest 39 = .ok (.if_icmp .ge 5, 3) := by decide +kernel
theorem dX2_truest_42 : decode cX2_truest 42 = .ok (.iload_n 2, 1) := by decide +kernel
theorem dX2_truest_43 : decode cX2_truest 43 = .ok (.istore_n 1, 1) := by decide +kernel
theorem dX2_truest_44 : decode cX2_truest 44 = .ok (.iinc 2 1, 3) := by decide +kernel
theorem dX2_truest_47 : decode cX2_truest 47 = .ok (.goto (-43), 3) := by decide +kernel
theorem dX2_truest_50 : decode cX2_truest 50 = .ok (.iload_n 1, 1) := by decide +kernel
theorem dX2_truest_51 : decode cX2_truest 51 = .ok (.ireturn, 1) := by decide +kernel
set_option maxRecDepth 20000 in
theorem ggX2_mostHonest_X2_truest : GoodIn wsX2_mostHonest wsX2_truest := goodIn_r _ [5, 6, 7, 8, 9, 10, 11, 17, 18, 19, 20, 21, 22, 23, 24, 25, 26, 27, 28, 29, 30] (by decide +kernel) (by decide +kernel)
set_option maxRecDepth 20000 in
theorem gX2_mostHonest_X2_truest : GoodIn wsX2_mostHonest (wsV RX2 137 RX2 yX2_truest wsX2_truest) := goodIn_app (goodIn_of _ (by decide +kernel)) ggX2_mostHonest_X2_truest
set_option maxRecDepth 20000 in
theorem ggX2_mostHonest_X2_told : GoodIn wsX2_mostHonest wsX2_told := goodIn_r _ [15, 16, 17, 18, 19, 20, 21, 22, 23, 24, 25, 26, 27, 28, 29, 30] (by decide +kernel) (by decide +kernel)
set_option maxRecDepth 20000 in
theorem gX2_mostHonest_X2_told : GoodIn wsX2_mostHonest (wsV RX2 98 RX2 yX2_told wsX2_told) := goodIn_app (goodIn_of _ (by decide +kernel)) ggX2_mostHonest_X2_told
theorem dX2_mostHonest_0 : decode cX2_mostHonest 0 = .ok (.aload_n 0, 1) := by decide +kernel
theorem dX2_mostHonest_1 : decode cX2_mostHonest 1 = .ok (.aload_n 0, 1) := by decide +kernel
theorem dX2_mostHonest_2 : decode cX2_mostHonest 2 = .ok (.invokevirtual 137, 3) := by decide +kernel
theorem dX2_mostHonest_5 : decode cX2_mostHonest 5 = .ok (.invokevirtual 98, 3) := by decide +kernel
theorem dX2_mostHonest_8 : decode cX2_mostHonest 8 = .ok (.ireturn, 1) := by decide +kernel
theorem dX2_kindest_0 : decode cX2_kindest 0 = .ok (.iconst (-1), 1) := by decide +kernel
theorem dX2_kindest_1 : decode cX2_kindest 1 = .ok (.istore_n 1, 1) := by decide +kernel
theorem dX2_kindest_2 : decode cX2_kindest 2 = .ok (.iconst 0, 1) := by decide +kernel
theorem dX2_kindest_3 : decode cX2_kindest 3 = .ok (.istore_n 2, 1) := by decide +kernel
theorem dX2_kindest_4 : decode cX2_kindest 4 = .ok (.iload_n 2, 1) := by decide +kernel
theorem dX2_kindest_5 : decode cX2_kindest 5 = .ok (.aload_n 0, 1) := by decide +kernel
theorem dX2_kindest_6 : decode cX2_kindest 6 = .ok (.getfield 49, 3) := by decide +kernel
theorem dX2_kindest_9 : decode cX2_kindest 9 = .ok (.if_icmp .ge 35, 3) := by decide +kernel
theorem dX2_kindest_12 : decode cX2_kindest 12 = .ok (.iload_n 1, 1) := by decide +kernel
theorem dX2_kindest_13 : decode cX2_kindest 13 = .ok (.iconst (-1), 1) := by decide +kernel
theorem dX2_kindest_14 : decode cX2_kindest 14 = .ok (.if_icmp .eq 22, 3) := by decide +kernel
theorem dX2_kindest_17 : decode cX2_kindest 17 = .ok (.aload_n 0, 1) := by decide +kernel
theorem dX2_kindest_18 : decode cX2_kindest 18 = .ok (.getfield 36, 3) := by decide +kernel
theorem dX2_kindest_21 : decode cX2_kindest 21 = .ok (.iconst 2, 1) := by decide +kernel
theorem dX2_kindest_22 : decode cX2_kindest 22 = .ok (.iload_n 2, 1) := by decide +kernel
theorem dX2_kindest_23 : decode cX2_kindest 23 = .ok (.iadd, 1) := by decide +kernel
theorem dX2_kindest_24 : decode cX2_kindest 24 = .ok (.iaload, 1) := by decide +kernel
theorem dX2_kindest_25 : decode cX2_kindest 25 = .ok (.aload_n 0, 1) := by decide +kernel
theorem dX2_kindest_26 : decode cX2_kindest 26 = .ok (.getfield 36, 3) := by decide +kernel
theorem dX2_kindest_29 : decode cX2_kindest 29 = .ok (.iconst 2, 1) := by decide +kernel
theorem dX2_kindest_30 : decode cX2_kindest 30 = .ok (.iload_n 1, 1) := by decide +kernel
theorem dX2_kindest_31 : decode cX2_kindest 31 = .ok (.iadd, 1) := by decide +kernel
theorem dX2_kindest_32 : decode cX2_kindest 32 = .ok (.iaload, 1) := by decide +kernel
theorem dX2_kindest_33 : decode cX2_kindest 33 = .ok (.if_icmp .le 5, 3) := by decide +kernel
theorem dX2_kindest_36 : decode cX2_kindest 36 = .ok (.iload_n 2, 1) := by decide +kernel
theorem dX2_kindest_37 : decode cX2_kindest 37 = .ok (.istore_n 1, 1) := by decide +kernel
theorem dX2_kindest_38 : decode cX2_kindest 38 = .ok (.iinc 2 1, 3) := by decide +kernel
theorem dX2_kindest_41 : decode cX2_kindest 41 = .ok (.goto (-37), 3) := by decide +kernel
theorem dX2_kindest_44 : decode cX2_kindest 44 = .ok (.iload_n 1, 1) := by decide +kernel
theorem dX2_kindest_45 : decode cX2_kindest 45 = .ok (.ireturn, 1) := by decide +kernel
set_option maxRecDepth 20000 in
theorem ggX2_mostGenerous_X2_kindest : GoodIn wsX2_mostGenerous wsX2_kindest := goodIn_r _ [5, 6, 7, 13, 14, 15, 16, 17, 18, 19, 20, 21, 22, 23, 24, 25, 26] (by decide +kernel) (by decide +kernel)
set_option maxRecDepth 20000 in
theorem gX2_mostGenerous_X2_kindest : GoodIn wsX2_mostGenerous (wsV RX2 140 RX2 yX2_kindest wsX2_kindest) := goodIn_app (goodIn_of _ (by decide +kernel)) ggX2_mostGenerous_X2_kindest
set_option maxRecDepth 20000 in
theorem ggX2_mostGenerous_X2_told : GoodIn wsX2_mostGenerous wsX2_told := goodIn_r _ [11, 12, 13, 14, 15, 16, 17, 18, 19, 20, 21, 22, 23, 24, 25, 26] (by decide +kernel) (by decide +kernel)
set_option maxRecDepth 20000 in
theorem gX2_mostGenerous_X2_told : GoodIn wsX2_mostGenerous (wsV RX2 98 RX2 yX2_told wsX2_told) := goodIn_app (goodIn_of _ (by decide +kernel)) ggX2_mostGenerous_X2_told
theorem dX2_mostGenerous_0 : decode cX2_mostGenerous 0 = .ok (.aload_n 0, 1) := by decide +kernel
theorem dX2_mostGenerous_1 : decode cX2_mostGenerous 1 = .ok (.aload_n 0, 1) := by decide +kernel
theorem dX2_mostGenerous_2 : decode cX2_mostGenerous 2 = .ok (.invokevirtual 140, 3) := by decide +kernel
theorem dX2_mostGenerous_5 : decode cX2_mostGenerous 5 = .ok (.invokevirtual 98, 3) := by decide +kernel
theorem dX2_mostGenerous_8 : decode cX2_mostGenerous 8 = .ok (.ireturn, 1) := by decide +kernel
set_option maxRecDepth 20000 in
theorem ggX2_driftIn_X2_isStall : GoodIn wsX2_driftIn wsX2_isStall := goodIn_r _ [7, 8, 9, 10, 6, 11, 53, 54, 55, 56, 57, 58, 59, 60, 61, 62, 63, 64, 65, 66] (by decide +kernel) (by decide +kernel)
set_option maxRecDepth 20000 in
theorem gX2_driftIn_X2_isStall : GoodIn wsX2_driftIn (wsV RX2 91 RX2 yX2_isStall wsX2_isStall) := goodIn_app (goodIn_of _ (by decide +kernel)) ggX2_driftIn_X2_isStall
set_option maxRecDepth 20000 in
theorem ggX2_driftIn_X2_fail : GoodIn wsX2_driftIn wsX2_fail := goodIn_r _ [15, 1, 53, 54, 55, 56, 57, 58, 59, 60, 61, 62, 63, 64, 65, 66] (by decide +kernel) (by decide +kernel)
set_option maxRecDepth 20000 in
theorem gX2_driftIn_X2_fail : GoodIn wsX2_driftIn (wsV RX2 82 RX2 yX2_fail wsX2_fail) := goodIn_app (goodIn_of _ (by decide +kernel)) ggX2_driftIn_X2_fail
set_option maxRecDepth 20000 in
theorem ggX2_driftIn_X2_isIn : GoodIn wsX2_driftIn wsX2_isIn := goodIn_r _ [11] (by decide +kernel) (by decide +kernel)
set_option maxRecDepth 20000 in
theorem gX2_driftIn_X2_isIn : GoodIn wsX2_driftIn (va_wsS RX2 45 yX2_isIn wsX2_isIn) := goodIn_app (goodIn_of _ (by decide +kernel)) ggX2_driftIn_X2_isIn
set_option maxRecDepth 20000 in
theorem ggX2_driftIn_X2_keep : GoodIn wsX2_driftIn wsX2_keep := goodIn_r _ [19, 2, 20, 21, 22, 23, 24, 53, 54, 55, 56, 57, 58, 59, 60, 61, 62, 63, 64, 65, 66] (by decide +kernel) (by decide +kernel)
set_option maxRecDepth 20000 in
theorem gX2_driftIn_X2_keep : GoodIn wsX2_driftIn (wsV RX2 143 RX2 yX2_keep wsX2_keep) := goodIn_app (goodIn_of _ (by decide +kernel)) ggX2_driftIn_X2_keep
set_option maxRecDepth 20000 in
theorem ggX2_driftIn_X2_daysOn : GoodIn wsX2_driftIn wsX2_daysOn := goodIn_r _ [28, 29, 30, 31, 6, 32, 8, 2, 33, 34, 35, 36, 37, 38, 39, 40, 41, 42, 43, 44, 45, 46, 47, 48, 53, 54, 55, 56, 57, 58, 59, 60, 61, 62, 63, 64, 65, 66] (by decide +kernel) (by decide +kernel)
set_option maxRecDepth 20000 in
theorem gX2_driftIn_X2_daysOn : GoodIn wsX2_driftIn (wsV RX2 94 RX2 yX2_daysOn wsX2_daysOn) := goodIn_app (goodIn_of _ (by decide +kernel)) ggX2_driftIn_X2_daysOn
set_option maxRecDepth 20000 in
theorem ggX2_driftIn_X2_bringBack : GoodIn wsX2_driftIn wsX2_bringBack := goodIn_r _ [52, 20, 2, 21, 22, 23, 24, 53, 54, 55, 56, 57, 58, 59, 60, 61, 62, 63, 64, 65, 66] (by decide +kernel) (by decide +kernel)
set_option maxRecDepth 20000 in
theorem gX2_driftIn_X2_bringBack : GoodIn wsX2_driftIn (wsV RX2 146 RX2 yX2_bringBack wsX2_bringBack) := goodIn_app (goodIn_of _ (by decide +kernel)) ggX2_driftIn_X2_bringBack
theorem dX2_driftIn_0 : decode cX2_driftIn 0 = .ok (.aload_n 0, 1) := by decide +kernel
theorem dX2_driftIn_1 : decode cX2_driftIn 1 = .ok (.iconst 0, 1) := by decide +kernel
theorem dX2_driftIn_2 : decode cX2_driftIn 2 = .ok (.putfield 42, 3) := by decide +kernel
theorem dX2_driftIn_5 : decode cX2_driftIn 5 = .ok (.aload_n 0, 1) := by decide +kernel
theorem dX2_driftIn_6 : decode cX2_driftIn 6 = .ok (.iload_n 1, 1) := by decide +kernel
theorem dX2_driftIn_7 : decode cX2_driftIn 7 = .ok (.invokevirtual 91, 3) := by decide +kernel
theorem dX2_driftIn_10 : decode cX2_driftIn 10 = .ok (.ifCond .ne 9, 3) := by decide +kernel
theorem dX2_driftIn_13 : decode cX2_driftIn 13 = .ok (.aload_n 0, 1) := by decide +kernel
theorem dX2_driftIn_14 : decode cX2_driftIn 14 = .ok (.iconst 1, 1) := by decide +kernel
theorem dX2_driftIn_15 : decode cX2_driftIn 15 = .ok (.invokevirtual 82, 3) := by decide +kernel
theorem dX2_driftIn_18 : decode cX2_driftIn 18 = .ok (.ireturn, 1) := by decide +kernel
theorem dX2_driftIn_19 : decode cX2_driftIn 19 = .ok (.iload_n 2, 1) := by decide +kernel
theorem dX2_driftIn_20 : decode cX2_driftIn 20 = .ok (.iconst 1, 1) := by decide +kernel
theorem dX2_driftIn_21 : decode cX2_driftIn 21 = .ok (.bipush 60, 2) := by decide +kernel
theorem dX2_driftIn_23 : decode cX2_driftIn 23 = .ok (.invokestatic 45, 3) := by decide +kernel
theorem dX2_driftIn_26 : decode cX2_driftIn 26 = .ok (.ifCond .ne 9, 3) := by decide +kernel
theorem dX2_driftIn_29 : decode cX2_driftIn 29 = .ok (.aload_n 0, 1) := by decide +kernel
theorem dX2_driftIn_30 : decode cX2_driftIn 30 = .ok (.iconst 2, 1) := by decide +kernel
theorem dX2_driftIn_31 : decode cX2_driftIn 31 = .ok (.invokevirtual 82, 3) := by decide +kernel
theorem dX2_driftIn_34 : decode cX2_driftIn 34 = .ok (.ireturn, 1) := by decide +kernel
theorem dX2_driftIn_35 : decode cX2_driftIn 35 = .ok (.aload_n 0, 1) := by decide +kernel
theorem dX2_driftIn_36 : decode cX2_driftIn 36 = .ok (.invokevirtual 143, 3) := by decide +kernel
theorem dX2_driftIn_39 : decode cX2_driftIn 39 = .ok (.aload_n 0, 1) := by decide +kernel
theorem dX2_driftIn_40 : decode cX2_driftIn 40 = .ok (.iload_n 2, 1) := by decide +kernel
theorem dX2_driftIn_41 : decode cX2_driftIn 41 = .ok (.invokevirtual 94, 3) := by decide +kernel
theorem dX2_driftIn_44 : decode cX2_driftIn 44 = .ok (.aload_n 0, 1) := by decide +kernel
theorem dX2_driftIn_45 : decode cX2_driftIn 45 = .ok (.getfield 36, 3) := by decide +kernel
theorem dX2_driftIn_48 : decode cX2_driftIn 48 = .ok (.iconst 2, 1) := by decide +kernel
theorem dX2_driftIn_49 : decode cX2_driftIn 49 = .ok (.iload_n 1, 1) := by decide +kernel
theorem dX2_driftIn_50 : decode cX2_driftIn 50 = .ok (.iadd, 1) := by decide +kernel
theorem dX2_driftIn_51 : decode cX2_driftIn 51 = .ok (.iaload, 1) := by decide +kernel
theorem dX2_driftIn_52 : decode cX2_driftIn 52 = .ok (.istore_n 3, 1) := by decide +kernel
theorem dX2_driftIn_53 : decode cX2_driftIn 53 = .ok (.aload_n 0, 1) := by decide +kernel
theorem dX2_driftIn_54 : decode cX2_driftIn 54 = .ok (.invokevirtual 146, 3) := by decide +kernel
theorem dX2_driftIn_57 : decode cX2_driftIn 57 = .ok (.iload_n 3, 1) := by decide +kernel
theorem dX2_driftIn_58 : decode cX2_driftIn 58 = .ok (.ireturn, 1) := by decide +kernel
set_option maxRecDepth 20000 in
theorem ggX2_finesIn_X2_isIn : GoodIn wsX2_finesIn wsX2_isIn := goodIn_r _ [6] (by decide +kernel) (by decide +kernel)
set_option maxRecDepth 20000 in
theorem gX2_finesIn_X2_isIn : GoodIn wsX2_finesIn (va_wsS RX2 45 yX2_isIn wsX2_isIn) := goodIn_app (goodIn_of _ (by decide +kernel)) ggX2_finesIn_X2_isIn
set_option maxRecDepth 20000 in
theorem ggX2_finesIn_X2_fail : GoodIn wsX2_finesIn wsX2_fail := goodIn_r _ [10, 1, 49, 50, 51, 52, 53, 54, 55, 56, 57, 58, 59, 60, 61, 62] (by decide +kernel) (by decide +kernel)
set_option maxRecDepth 20000 in
theorem gX2_finesIn_X2_fail : GoodIn wsX2_finesIn (wsV RX2 82 RX2 yX2_fail wsX2_fail) := goodIn_app (goodIn_of _ (by decide +kernel)) ggX2_finesIn_X2_fail
set_option maxRecDepth 20000 in
theorem ggX2_finesIn_X2_keep : GoodIn wsX2_finesIn wsX2_keep := goodIn_r _ [14, 2, 15, 16, 17, 18, 19, 49, 50, 51, 52, 53, 54, 55, 56, 57, 58, 59, 60, 61, 62] (by decide +kernel) (by decide +kernel)
set_option maxRecDepth 20000 in
theorem gX2_finesIn_X2_keep : GoodIn wsX2_finesIn (wsV RX2 143 RX2 yX2_keep wsX2_keep) := goodIn_app (goodIn_of _ (by decide +kernel)) ggX2_finesIn_X2_keep
set_option maxRecDepth 20000 in
theorem ggX2_finesIn_X2_daysOn : GoodIn wsX2_finesIn wsX2_daysOn := goodIn_r _ [23, 24, 25, 26, 5, 27, 28, 2, 29, 30, 31, 32, 33, 34, 35, 36, 37, 38, 39, 40, 41, 42, 43, 44, 49, 50, 51, 52, 53, 54, 55, 56, 57, 58, 59, 60, 61, 62] (by decide +kernel) (by decide +kernel)
set_option maxRecDepth 20000 in
theorem gX2_finesIn_X2_daysOn : GoodIn wsX2_finesIn (wsV RX2 94 RX2 yX2_daysOn wsX2_daysOn) := goodIn_app (goodIn_of _ (by decide +kernel)) ggX2_finesIn_X2_daysOn
set_option maxRecDepth 20000 in
theorem ggX2_finesIn_X2_bringBack : GoodIn wsX2_finesIn wsX2_bringBack := goodIn_r _ [48, 15, 2, 16, 17, 18, 19, 49, 50, 51, 52, 53, 54, 55, 56, 57, 58, 59, 60, 61, 62] (by decide +kernel) (by decide +kernel)
set_option maxRecDepth 20000 in
theorem gX2_finesIn_X2_bringBack : GoodIn wsX2_finesIn (wsV RX2 146 RX2 yX2_bringBack wsX2_bringBack) := goodIn_app (goodIn_of _ (by decide +kernel)) ggX2_finesIn_X2_bringBack
theorem dX2_finesIn_0 : decode cX2_finesIn 0 = .ok (.aload_n 0, 1) := by decide +kernel
theorem dX2_finesIn_1 : decode cX2_finesIn 1 = .ok (.iconst 0, 1) := by decide +kernel
theorem dX2_finesIn_2 : decode cX2_finesIn 2 = .ok (.putfield 42, 3) := by decide +kernel
theorem dX2_finesIn_5 : decode cX2_finesIn 5 = .ok (.iload_n 1, 1) := by decide +kernel
theorem dX2_finesIn_6 : decode cX2_finesIn 6 = .ok (.iconst 1, 1) := by decide +kernel
theorem dX2_finesIn_7 : decode cX2_finesIn 7 = .ok (.bipush 60, 2) := by decide +kernel
theorem dX2_finesIn_9 : decode cX2_finesIn 9 = .ok (.invokestatic 45, 3) := by decide +kernel
theorem dX2_finesIn_12 : decode cX2_finesIn 12 = .ok (.ifCond .ne 9, 3) := by decide +kernel
theorem dX2_finesIn_15 : decode cX2_finesIn 15 = .ok (.aload_n 0, 1) := by decide +kernel
theorem dX2_finesIn_16 : decode cX2_finesIn 16 = .ok (.iconst 1, 1) := by decide +kernel
theorem dX2_finesIn_17 : decode cX2_finesIn 17 = .ok (.invokevirtual 82, 3) := by decide +kernel
theorem dX2_finesIn_20 : decode cX2_finesIn 20 = .ok (.ireturn, 1) := by decide +kernel
theorem dX2_finesIn_21 : decode cX2_finesIn 21 = .ok (.aload_n 0, 1) := by decide +kernel
theorem dX2_finesIn_22 : decode cX2_finesIn 22 = .ok (.invokevirtual 143, 3) := by decide +kernel
theorem dX2_finesIn_25 : decode cX2_finesIn 25 = .ok (.aload_n 0, 1) := by decide +kernel
theorem dX2_finesIn_26 : decode cX2_finesIn 26 = .ok (.getfield 36, 3) := by decide +kernel
theorem dX2_finesIn_29 : decode cX2_finesIn 29 = .ok (.iconst 1, 1) := by decide +kernel
theorem dX2_finesIn_30 : decode cX2_finesIn 30 = .ok (.iaload, 1) := by decide +kernel
theorem dX2_finesIn_31 : decode cX2_finesIn 31 = .ok (.istore_n 2, 1) := by decide +kernel
theorem dX2_finesIn_32 : decode cX2_finesIn 32 = .ok (.aload_n 0, 1) := by decide +kernel
theorem dX2_finesIn_33 : decode cX2_finesIn 33 = .ok (.iload_n 1, 1) := by decide +kernel
theorem dX2_finesIn_34 : decode cX2_finesIn 34 = .ok (.invokevirtual 94, 3) := by decide +kernel
theorem dX2_finesIn_37 : decode cX2_finesIn 37 = .ok (.aload_n 0, 1) := by decide +kernel
theorem dX2_finesIn_38 : decode cX2_finesIn 38 = .ok (.getfield 36, 3) := by decide +kernel
theorem dX2_finesIn_41 : decode cX2_finesIn 41 = .ok (.iconst 1, 1) := by decide +kernel
theorem dX2_finesIn_42 : decode cX2_finesIn 42 = .ok (.iaload, 1) := by decide +kernel
theorem dX2_finesIn_43 : decode cX2_finesIn 43 = .ok (.iload_n 2, 1) := by decide +kernel
theorem dX2_finesIn_44 : decode cX2_finesIn 44 = .ok (.isub, 1) := by decide +kernel
theorem dX2_finesIn_45 : decode cX2_finesIn 45 = .ok (.istore_n 3, 1) := by decide +kernel
theorem dX2_finesIn_46 : decode cX2_finesIn 46 = .ok (.aload_n 0, 1) := by decide +kernel
theorem dX2_finesIn_47 : decode cX2_finesIn 47 = .ok (.invokevirtual 146, 3) := by decide +kernel
theorem dX2_finesIn_50 : decode cX2_finesIn 50 = .ok (.iload_n 3, 1) := by decide +kernel
theorem dX2_finesIn_51 : decode cX2_finesIn 51 = .ok (.ireturn, 1) := by decide +kernel
set_option maxRecDepth 20000 in
theorem ggX2_untilFined_X2_keep : GoodIn wsX2_untilFined wsX2_keep := goodIn_r _ [5, 6, 7, 8, 9, 10, 11, 37, 38, 39, 40, 41, 42, 43, 44, 45, 46, 47, 48, 49, 50] (by decide +kernel) (by decide +kernel)
set_option maxRecDepth 20000 in
theorem gX2_untilFined_X2_keep : GoodIn wsX2_untilFined (wsV RX2 143 RX2 yX2_keep wsX2_keep) := goodIn_app (goodIn_of _ (by decide +kernel)) ggX2_untilFined_X2_keep
set_option maxRecDepth 20000 in
theorem ggX2_untilFined_X2_dayOn : GoodIn wsX2_untilFined wsX2_dayOn := goodIn_r _ [15, 16, 6, 17, 18, 19, 20, 21, 22, 23, 24, 25, 26, 27, 28, 29, 30, 4, 31, 32, 37, 38, 39, 40, 41, 42, 43, 44, 45, 46, 47, 48, 49, 50] (by decide +kernel) (by decide +kernel)
set_option maxRecDepth 20000 in
theorem gX2_untilFined_X2_dayOn : GoodIn wsX2_untilFined (wsV RX2 75 RX2 yX2_dayOn wsX2_dayOn) := goodIn_app (goodIn_of _ (by decide +kernel)) ggX2_untilFined_X2_dayOn
set_option maxRecDepth 20000 in
theorem ggX2_untilFined_X2_bringBack : GoodIn wsX2_untilFined wsX2_bringBack := goodIn_r _ [36, 7, 6, 8, 9, 10, 11, 37, 38, 39, 40, 41, 42, 43, 44, 45, 46, 47, 48, 49, 50] (by decide +kernel) (by decide +kernel)
set_option maxRecDepth 20000 in
theorem gX2_untilFined_X2_bringBack : GoodIn wsX2_untilFined (wsV RX2 146 RX2 yX2_bringBack wsX2_bringBack) := goodIn_app (goodIn_of _ (by decide +kernel)) ggX2_untilFined_X2_bringBack
theorem dX2_untilFined_0 : decode cX2_untilFined 0 = .ok (.aload_n 0, 1) := by decide +kernel
theorem dX2_untilFined_1 : decode cX2_untilFined 1 = .ok (.invokevirtual 143, 3) := by decide +kernel
theorem dX2_untilFined_4 : decode cX2_untilFined 4 = .ok (.iconst 1, 1) := by decide +kernel
theorem dX2_untilFined_5 : decode cX2_untilFined 5 = .ok (.istore_n 2, 1) := by decide +kernel
theorem dX2_untilFined_6 : decode cX2_untilFined 6 = .ok (.iload_n 2, 1) := by decide +kernel
theorem dX2_untilFined_7 : decode cX2_untilFined 7 = .ok (.bipush 60, 2) := by decide +kernel
theorem dX2_untilFined_9 : decode cX2_untilFined 9 = .ok (.if_icmp .gt 17, 3) := by decide +kernel
theorem dX2_untilFined_12 : decode cX2_untilFined 12 = .ok (.aload_n 0, 1) := by decide +kernel
theorem dX2_untilFined_13 : decode cX2_untilFined 13 = .ok (.invokevirtual 75, 3) := by decide +kernel
theorem dX2_untilFined_16 : decode cX2_untilFined 16 = .ok (.iload_n 1, 1) := by decide +kernel
theorem dX2_untilFined_17 : decode cX2_untilFined 17 = .ok (.if_icmp .eq 9, 3) := by decide +kernel
theorem dX2_untilFined_20 : decode cX2_untilFined 20 = .ok (.iinc 2 1, 3) := by decide +kernel
theorem dX2_untilFined_23 : decode cX2_untilFined 23 = .ok (.goto (-17), 3) := by decide +kernel
theorem dX2_untilFined_26 : decode cX2_untilFined 26 = .ok (.aload_n 0, 1) := by decide +kernel
theorem dX2_untilFined_27 : decode cX2_untilFined 27 = .ok (.invokevirtual 146, 3) := by decide +kernel
theorem dX2_untilFined_30 : decode cX2_untilFined 30 = .ok (.iload_n 2, 1) := by decide +kernel
theorem dX2_untilFined_31 : decode cX2_untilFined 31 = .ok (.bipush 60, 2) := by decide +kernel
theorem dX2_untilFined_33 : decode cX2_untilFined 33 = .ok (.if_icmp .le 7, 3) := by decide +kernel
theorem dX2_untilFined_36 : decode cX2_untilFined 36 = .ok (.iconst (-1), 1) := by decide +kernel
theorem dX2_untilFined_37 : decode cX2_untilFined 37 = .ok (.goto 4, 3) := by decide +kernel
theorem dX2_untilFined_40 : decode cX2_untilFined 40 = .ok (.iload_n 2, 1) := by decide +kernel
theorem dX2_untilFined_41 : decode cX2_untilFined 41 = .ok (.ireturn, 1) := by decide +kernel
set_option maxRecDepth 20000 in
theorem ggX2_daysUntilFined_X2_isStall : GoodIn wsX2_daysUntilFined wsX2_isStall := goodIn_r _ [6, 7, 8, 9, 5, 10, 53, 54, 55, 56, 57, 58, 59, 60, 61, 62, 63, 64, 65, 66] (by decide +kernel) (by decide +kernel)
set_option maxRecDepth 20000 in
theorem gX2_daysUntilFined_X2_isStall : GoodIn wsX2_daysUntilFined (wsV RX2 91 RX2 yX2_isStall wsX2_isStall) := goodIn_app (goodIn_of _ (by decide +kernel)) ggX2_daysUntilFined_X2_isStall
set_option maxRecDepth 20000 in
theorem ggX2_daysUntilFined_X2_untilFined : GoodIn wsX2_daysUntilFined wsX2_untilFined := goodIn_r _ [14, 15, 16, 17, 5, 18, 19, 20, 21, 22, 23, 24, 25, 26, 27, 28, 7, 29, 30, 31, 32, 33, 34, 35, 36, 37, 38, 39, 40, 41, 42, 43, 44, 45, 46, 47, 48, 53, 54, 55, 56, 57, 58, 59, 60, 61, 62, 63, 64, 65, 66] (by decide +kernel) (by decide +kernel)
set_option maxRecDepth 20000 in
theorem gX2_daysUntilFined_X2_untilFined : GoodIn wsX2_daysUntilFined (wsV RX2 149 RX2 yX2_untilFined wsX2_untilFined) := goodIn_app (goodIn_of _ (by decide +kernel)) ggX2_daysUntilFined_X2_untilFined
set_option maxRecDepth 20000 in
theorem ggX2_daysUntilFined_X2_fail : GoodIn wsX2_daysUntilFined wsX2_fail := goodIn_r _ [52, 1, 53, 54, 55, 56, 57, 58, 59, 60, 61, 62, 63, 64, 65, 66] (by decide +kernel) (by decide +kernel)
set_option maxRecDepth 20000 in
theorem gX2_daysUntilFined_X2_fail : GoodIn wsX2_daysUntilFined (wsV RX2 82 RX2 yX2_fail wsX2_fail) := goodIn_app (goodIn_of _ (by decide +kernel)) ggX2_daysUntilFined_X2_fail
theorem dX2_daysUntilFined_0 : decode cX2_daysUntilFined 0 = .ok (.aload_n 0, 1) := by decide +kernel
theorem dX2_daysUntilFined_1 : decode cX2_daysUntilFined 1 = .ok (.iconst 0, 1) := by decide +kernel
theorem dX2_daysUntilFined_2 : decode cX2_daysUntilFined 2 = .ok (.putfield 42, 3) := by decide +kernel
theorem dX2_daysUntilFined_5 : decode cX2_daysUntilFined 5 = .ok (.aload_n 0, 1) := by decide +kernel
theorem dX2_daysUntilFined_6 : decode cX2_daysUntilFined 6 = .ok (.iload_n 1, 1) := by decide +kernel
theorem dX2_daysUntilFined_7 : decode cX2_daysUntilFined 7 = .ok (.invokevirtual 91, 3) := by decide +kernel
theorem dX2_daysUntilFined_10 : decode cX2_daysUntilFined 10 = .ok (.ifCond .eq 11, 3) := by decide +kernel
theorem dX2_daysUntilFined_13 : decode cX2_daysUntilFined 13 = .ok (.aload_n 0, 1) := by decide +kernel
theorem dX2_daysUntilFined_14 : decode cX2_daysUntilFined 14 = .ok (.iload_n 1, 1) := by decide +kernel
theorem dX2_daysUntilFined_15 : decode cX2_daysUntilFined 15 = .ok (.invokevirtual 149, 3) := by decide +kernel
theorem dX2_daysUntilFined_18 : decode cX2_daysUntilFined 18 = .ok (.goto 8, 3) := by decide +kernel
theorem dX2_daysUntilFined_21 : decode cX2_daysUntilFined 21 = .ok (.aload_n 0, 1) := by decide +kernel
theorem dX2_daysUntilFined_22 : decode cX2_daysUntilFined 22 = .ok (.iconst 1, 1) := by decide +kernel
theorem dX2_daysUntilFined_23 : decode cX2_daysUntilFined 23 = .ok (.invokevirtual 82, 3) := by decide +kernel
theorem dX2_daysUntilFined_26 : decode cX2_daysUntilFined 26 = .ok (.ireturn, 1) := by decide +kernel
set_option maxRecDepth 20000 in
theorem ggX2_bestDay_X2_keep : GoodIn wsX2_bestDay wsX2_keep := goodIn_r _ [6, 1, 7, 8, 9, 10, 11, 37, 38, 39, 40, 41, 42, 43, 44, 45, 46, 47, 48, 49, 50] (by decide +kernel) (by decide +kernel)
set_option maxRecDepth 20000 in
theorem gX2_bestDay_X2_keep : GoodIn wsX2_bestDay (wsV RX2 143 RX2 yX2_keep wsX2_keep) := goodIn_app (goodIn_of _ (by decide +kernel)) ggX2_bestDay_X2_keep
set_option maxRecDepth 20000 in
theorem ggX2_bestDay_X2_dayOn : GoodIn wsX2_bestDay wsX2_dayOn := goodIn_r _ [15, 16, 1, 17, 18, 19, 20, 21, 22, 23, 24, 25, 26, 27, 28, 29, 30, 5, 31, 32, 37, 38, 39, 40, 41, 42, 43, 44, 45, 46, 47, 48, 49, 50] (by decide +kernel) (by decide +kernel)
set_option maxRecDepth 20000 in
theorem gX2_bestDay_X2_dayOn : GoodIn wsX2_bestDay (wsV RX2 75 RX2 yX2_dayOn wsX2_dayOn) := goodIn_app (goodIn_of _ (by decide +kernel)) ggX2_bestDay_X2_dayOn
set_option maxRecDepth 20000 in
theorem ggX2_bestDay_X2_bringBack : GoodIn wsX2_bestDay wsX2_bringBack := goodIn_r _ [36, 7, 1, 8, 9, 10, 11, 37, 38, 39, 40, 41, 42, 43, 44, 45, 46, 47, 48, 49, 50] (by decide +kernel) (by decide +kernel)
set_option maxRecDepth 20000 in
theorem gX2_bestDay_X2_bringBack : GoodIn wsX2_bestDay (wsV RX2 146 RX2 yX2_bringBack wsX2_bringBack) := goodIn_app (goodIn_of _ (by decide +kernel)) ggX2_bestDay_X2_bringBack
theorem dX2_bestDay_0 : decode cX2_bestDay 0 = .ok (.aload_n 0, 1) := by decide +kernel
theorem dX2_bestDay_1 : decode cX2_bestDay 1 = .ok (.invokevirtual 143, 3) := by decide +kernel
theorem dX2_bestDay_4 : decode cX2_bestDay 4 = .ok (.iconst 0, 1) := by decide +kernel
theorem dX2_bestDay_5 : decode cX2_bestDay 5 = .ok (.istore_n 2, 1) := by decide +kernel
theorem dX2_bestDay_6 : decode cX2_bestDay 6 = .ok (.aload_n 0, 1) := by decide +kernel
theorem dX2_bestDay_7 : decode cX2_bestDay 7 = .ok (.getfield 36, 3) := by decide +kernel
theorem dX2_bestDay_10 : decode cX2_bestDay 10 = .ok (.iconst 2, 1) := by decide +kernel
theorem dX2_bestDay_11 : decode cX2_bestDay 11 = .ok (.iload_n 1, 1) := by decide +kernel
theorem dX2_bestDay_12 : decode cX2_bestDay 12 = .ok (.iadd, 1) := by decide +kernel
theorem dX2_bestDay_13 : decode cX2_bestDay 13 = .ok (.iaload, 1) := by decide +kernel
theorem dX2_bestDay_14 : decode cX2_bestDay 14 = .ok (.istore_n 3, 1) := by decide +kernel
theorem dX2_bestDay_15 : decode cX2_bestDay 15 = .ok (.iconst 1, 1) := by decide +kernel
theorem dX2_bestDay_16 : decode cX2_bestDay 16 = .ok (.istore 4, 2) := by decide +kernel
theorem dX2_bestDay_18 : decode cX2_bestDay 18 = .ok (.iload 4, 2) := by decide +kernel
theorem dX2_bestDay_20 : decode cX2_bestDay 20 = .ok (.bipush 30, 2) := by decide +kernel
theorem dX2_bestDay_22 : decode cX2_bestDay 22 = .ok (.if_icmp .gt 41, 3) := by decide +kernel
theorem dX2_bestDay_25 : decode cX2_bestDay 25 = .ok (.aload_n 0, 1) := by decide +kernel
theorem dX2_bestDay_26 : decode cX2_bestDay 26 = .ok (.invokevirtual 75, 3) := by decide +kernel
theorem dX2_bestDay_29 : decode cX2_bestDay 29 = .ok (.pop, 1) := by decide +kernel
theorem dX2_bestDay_30 : decode cX2_bestDay 30 = .ok (.aload_n 0, 1) := by decide +kernel
theorem dX2_bestDay_31 : decode cX2_bestDay 31 = .ok (.getfield 36, 3) := by decide +kernel
theorem dX2_bestDay_34 : decode cX2_bestDay 34 = .ok (.iconst 2, 1) := by decide +kernel
theorem dX2_bestDay_35 : decode cX2_bestDay 35 = .ok (.iload_n 1, 1) := by decide +kernel
theorem dX2_bestDay_36 : decode cX2_bestDay 36 = .ok (.iadd, 1) := by decide +kernel
theorem dX2_bestDay_37 : decode cX2_bestDay 37 = .ok (.iaload, 1) := by decide +kernel
theorem dX2_bestDay_38 : decode cX2_bestDay 38 = .ok (.iload_n 3, 1) := by decide +kernel
theorem dX2_bestDay_39 : decode cX2_bestDay 39 = .ok (.if_icmp .gt 6, 3) := by decide +kernel
theorem dX2_bestDay_42 : decode cX2_bestDay 42 = .ok (.goto 15, 3) := by decide +kernel
theorem dX2_bestDay_45 : decode cX2_bestDay 45 = .ok (.iload 4, 2) := by decide +kernel
theorem dX2_bestDay_47 : decode cX2_bestDay 47 = .ok (.istore_n 2, 1) := by decide +kernel
theorem dX2_bestDay_48 : decode cX2_bestDay 48 = .ok (.aload_n 0, 1) := by decide +kernel
theorem dX2_bestDay_49 : decode cX2_bestDay 49 = .ok (.getfield 36, 3) := by decide +kernel
theorem dX2_bestDay_52 : decode cX2_bestDay 52 = .ok (.iconst 2, 1) := by decide +kernel
theorem dX2_bestDay_53 : decode cX2_bestDay 53 = .ok (.iload_n 1, 1) := by decide +kernel
theorem dX2_bestDay_54 : decode cX2_bestDay 54 = .ok (.iadd, 1) := by decide +kernel
theorem dX2_bestDay_55 : decode cX2_bestDay 55 = .ok (.iaload, 1) := by decide +kernel
theorem dX2_bestDay_56 : decode cX2_bestDay 56 = .ok (.istore_n 3, 1) := by decide +kernel
theorem dX2_bestDay_57 : decode cX2_bestDay 57 = .ok (.iinc 4 1, 3) := by decide +kernel
theorem dX2_bestDay_60 : decode cX2_bestDay 60 = .ok (.goto (-42), 3) := by decide +kernel
theorem dX2_bestDay_63 : decode cX2_bestDay 63 = .ok (.aload_n 0, 1) := by decide +kernel
theorem dX2_bestDay_64 : decode cX2_bestDay 64 = .ok (.invokevirtual 146, 3) := by decide +kernel
theorem dX2_bestDay_67 : decode cX2_bestDay 67 = .ok (.iload_n 2, 1) := by decide +kernel
theorem dX2_bestDay_68 : decode cX2_bestDay 68 = .ok (.ireturn, 1) := by decide +kernel
set_option maxRecDepth 20000 in
theorem ggX2_bestDayAt_X2_isStall : GoodIn wsX2_bestDayAt wsX2_isStall := goodIn_r _ [6, 7, 8, 9, 5, 10, 53, 54, 55, 56, 57, 58, 59, 60, 61, 62, 63, 64, 65, 66] (by decide +kernel) (by decide +kernel)
set_option maxRecDepth 20000 in
theorem gX2_bestDayAt_X2_isStall : GoodIn wsX2_bestDayAt (wsV RX2 91 RX2 yX2_isStall wsX2_isStall) := goodIn_app (goodIn_of _ (by decide +kernel)) ggX2_bestDayAt_X2_isStall
set_option maxRecDepth 20000 in
theorem ggX2_bestDayAt_X2_bestDay : GoodIn wsX2_bestDayAt wsX2_bestDay := goodIn_r _ [14, 15, 16, 17, 18, 5, 19, 20, 21, 22, 23, 24, 25, 26, 27, 28, 7, 29, 30, 31, 32, 33, 34, 35, 36, 37, 38, 39, 40, 41, 42, 43, 44, 45, 46, 47, 48, 53, 54, 55, 56, 57, 58, 59, 60, 61, 62, 63, 64, 65, 66] (by decide +kernel) (by decide +kernel)
set_option maxRecDepth 20000 in
theorem gX2_bestDayAt_X2_bestDay : GoodIn wsX2_bestDayAt (wsV RX2 152 RX2 yX2_bestDay wsX2_bestDay) := goodIn_app (goodIn_of _ (by decide +kernel)) ggX2_bestDayAt_X2_bestDay
set_option maxRecDepth 20000 in
theorem ggX2_bestDayAt_X2_fail : GoodIn wsX2_bestDayAt wsX2_fail := goodIn_r _ [52, 1, 53, 54, 55, 56, 57, 58, 59, 60, 61, 62, 63, 64, 65, 66] (by decide +kernel) (by decide +kernel)
set_option maxRecDepth 20000 in
theorem gX2_bestDayAt_X2_fail : GoodIn wsX2_bestDayAt (wsV RX2 82 RX2 yX2_fail wsX2_fail) := goodIn_app (goodIn_of _ (by decide +kernel)) ggX2_bestDayAt_X2_fail
theorem dX2_bestDayAt_0 : decode cX2_bestDayAt 0 = .ok (.aload_n 0, 1) := by decide +kernel
theorem dX2_bestDayAt_1 : decode cX2_bestDayAt 1 = .ok (.iconst 0, 1) := by decide +kernel
theorem dX2_bestDayAt_2 : decode cX2_bestDayAt 2 = .ok (.putfield 42, 3) := by decide +kernel
theorem dX2_bestDayAt_5 : decode cX2_bestDayAt 5 = .ok (.aload_n 0, 1) := by decide +kernel
theorem dX2_bestDayAt_6 : decode cX2_bestDayAt 6 = .ok (.iload_n 1, 1) := by decide +kernel
theorem dX2_bestDayAt_7 : decode cX2_bestDayAt 7 = .ok (.invokevirtual 91, 3) := by decide +kernel
theorem dX2_bestDayAt_10 : decode cX2_bestDayAt 10 = .ok (.ifCond .eq 11, 3) := by decide +kernel
theorem dX2_bestDayAt_13 : decode cX2_bestDayAt 13 = .ok (.aload_n 0, 1) := by decide +kernel
theorem dX2_bestDayAt_14 : decode cX2_bestDayAt 14 = .ok (.iload_n 1, 1) := by decide +kernel
theorem dX2_bestDayAt_15 : decode cX2_bestDayAt 15 = .ok (.invokevirtual 152, 3) := by decide +kernel
theorem dX2_bestDayAt_18 : decode cX2_bestDayAt 18 = .ok (.goto 8, 3) := by decide +kernel
theorem dX2_bestDayAt_21 : decode cX2_bestDayAt 21 = .ok (.aload_n 0, 1) := by decide +kernel
theorem dX2_bestDayAt_22 : decode cX2_bestDayAt 22 = .ok (.iconst 1, 1) := by decide +kernel
theorem dX2_bestDayAt_23 : decode cX2_bestDayAt 23 = .ok (.invokevirtual 82, 3) := by decide +kernel
theorem dX2_bestDayAt_26 : decode cX2_bestDayAt 26 = .ok (.ireturn, 1) := by decide +kernel
theorem dX2_meanDrift_0 : decode cX2_meanDrift 0 = .ok (.aload_n 0, 1) := by decide +kernel
theorem dX2_meanDrift_1 : decode cX2_meanDrift 1 = .ok (.iconst 0, 1) := by decide +kernel
theorem dX2_meanDrift_2 : decode cX2_meanDrift 2 = .ok (.putfield 42, 3) := by decide +kernel
theorem dX2_meanDrift_5 : decode cX2_meanDrift 5 = .ok (.iconst 0, 1) := by decide +kernel
theorem dX2_meanDrift_6 : decode cX2_meanDrift 6 = .ok (.istore_n 1, 1) := by decide +kernel
theorem dX2_meanDrift_7 : decode cX2_meanDrift 7 = .ok (.iconst 0, 1) := by decide +kernel
theorem dX2_meanDrift_8 : decode cX2_meanDrift 8 = .ok (.istore_n 2, 1) := by decide +kernel
theorem dX2_meanDrift_9 : decode cX2_meanDrift 9 = .ok (.iload_n 2, 1) := by decide +kernel
theorem dX2_meanDrift_10 : decode cX2_meanDrift 10 = .ok (.aload_n 0, 1) := by decide +kernel
theorem dX2_meanDrift_11 : decode cX2_meanDrift 11 = .ok (.getfield 49, 3) := by decide +kernel
theorem dX2_meanDrift_14 : decode cX2_meanDrift 14 = .ok (.if_icmp .ge 20, 3) := by decide +kernel
theorem dX2_meanDrift_17 : decode cX2_meanDrift 17 = .ok (.iload_n 1, 1) := by decide +kernel
theorem dX2_meanDrift_18 : decode cX2_meanDrift 18 = .ok (.aload_n 0, 1) := by decide +kernel
theorem dX2_meanDrift_19 : decode cX2_meanDrift 19 = .ok (.getfield 36, 3) := by decide +kernel
theorem dX2_meanDrift_22 : decode cX2_meanDrift 22 = .ok (.iconst 2, 1) := by decide +kernel
theorem dX2_meanDrift_23 : decode cX2_meanDrift 23 = .ok (.iload_n 2, 1) := by decide +kernel
theorem dX2_meanDrift_24 : decode cX2_meanDrift 24 = .ok (.iadd, 1) := by decide +kernel
theorem dX2_meanDrift_25 : decode cX2_meanDrift 25 = .ok (.iaload, 1) := by decide +kernel
theorem dX2_meanDrift_26 : decode cX2_meanDrift 26 = .ok (.iadd, 1) := by decide +kernel
theorem dX2_meanDrift_27 : decode cX2_meanDrift 27 = .ok (.istore_n 1, 1) := by decide +kernel
theorem dX2_meanDrift_28 : decode cX2_meanDrift 28 = .ok (.iinc 2 1, 3) := by decide +kernel
theorem dX2_meanDrift_31 : decode cX2_meanDrift 31 = .ok (.goto (-22), 3) := by decide +kernel
theorem dX2_meanDrift_34 : decode cX2_meanDrift 34 = .ok (.aload_n 0, 1) := by decide +kernel
theorem dX2_meanDrift_35 : decode cX2_meanDrift 35 = .ok (.getfield 49, 3) := by decide +kernel
theorem dX2_meanDrift_38 : decode cX2_meanDrift 38 = .ok (.ifCond .ne 7, 3) := by decide +kernel
theorem dX2_meanDrift_41 : decode cX2_meanDrift 41 = .ok (.dconst 0, 1) := by decide +kernel
theorem dX2_meanDrift_42 : decode cX2_meanDrift 42 = .ok (.goto 11, 3) := by decide +kernel
theorem dX2_meanDrift_45 : decode cX2_meanDrift 45 = .ok (.iload_n 1, 1) := by decide +kernel
theorem dX2_meanDrift_46 : decode cX2_meanDrift 46 = .ok (.i2d, 1) := by decide +kernel
theorem dX2_meanDrift_47 : decode cX2_meanDrift 47 = .ok (.aload_n 0, 1) := by decide +kernel
theorem dX2_meanDrift_48 : decode cX2_meanDrift 48 = .ok (.getfield 49, 3) := by decide +kernel
theorem dX2_meanDrift_51 : decode cX2_meanDrift 51 = .ok (.i2d, 1) := by decide +kernel
theorem dX2_meanDrift_52 : decode cX2_meanDrift 52 = .ok (.ddiv, 1) := by decide +kernel
theorem dX2_meanDrift_53 : decode cX2_meanDrift 53 = .ok (.dreturn, 1) := by decide +kernel
set_option maxRecDepth 20000 in
theorem ggX2_digest_X2_least : GoodIn wsX2_digest wsX2_least := goodIn_r _ [19, 3, 13, 91, 92, 93, 94, 95, 96, 97, 98, 99, 100, 101, 102, 103, 104] (by decide +kernel) (by decide +kernel)
set_option maxRecDepth 20000 in
theorem gX2_digest_X2_least : GoodIn wsX2_digest (wsV RX2 109 RX2 yX2_least wsX2_least) := goodIn_app (goodIn_of _ (by decide +kernel)) ggX2_digest_X2_least
set_option maxRecDepth 20000 in
theorem ggX2_digest_X2_truest : GoodIn wsX2_digest wsX2_truest := goodIn_r _ [23, 4, 5, 24, 25, 26, 27, 91, 92, 93, 94, 95, 96, 97, 98, 99, 100, 101, 102, 103, 104] (by decide +kernel) (by decide +kernel)
set_option maxRecDepth 20000 in
theorem gX2_digest_X2_truest : GoodIn wsX2_digest (wsV RX2 137 RX2 yX2_truest wsX2_truest) := goodIn_app (goodIn_of _ (by decide +kernel)) ggX2_digest_X2_truest
set_option maxRecDepth 20000 in
theorem ggX2_digest_X2_kindest : GoodIn wsX2_digest wsX2_kindest := goodIn_r _ [31, 4, 5, 91, 92, 93, 94, 95, 96, 97, 98, 99, 100, 101, 102, 103, 104] (by decide +kernel) (by decide +kernel)
set_option maxRecDepth 20000 in
theorem gX2_digest_X2_kindest : GoodIn wsX2_digest (wsV RX2 140 RX2 yX2_kindest wsX2_kindest) := goodIn_app (goodIn_of _ (by decide +kernel)) ggX2_digest_X2_kindest
set_option maxRecDepth 20000 in
theorem ggX2_digest_X2_top : GoodIn wsX2_digest wsX2_top := goodIn_r _ [35, 13, 36, 37, 18, 38, 91, 92, 93, 94, 95, 96, 97, 98, 99, 100, 101, 102, 103, 104] (by decide +kernel) (by decide +kernel)
set_option maxRecDepth 20000 in
theorem gX2_digest_X2_top : GoodIn wsX2_digest (wsV RX2 105 RX2 yX2_top wsX2_top) := goodIn_app (goodIn_of _ (by decide +kernel)) ggX2_digest_X2_top
set_option maxRecDepth 20000 in
theorem ggX2_digest_X2_split : GoodIn wsX2_digest wsX2_split := goodIn_r _ [42, 43, 3, 8, 13, 91, 92, 93, 94, 95, 96, 97, 98, 99, 100, 101, 102, 103, 104] (by decide +kernel) (by decide +kernel)
set_option maxRecDepth 20000 in
theorem gX2_digest_X2_split : GoodIn wsX2_digest (wsV RX2 119 RX2 yX2_split wsX2_split) := goodIn_app (goodIn_of _ (by decide +kernel)) ggX2_digest_X2_split
set_option maxRecDepth 20000 in
theorem ggX2_digest_X2_tells : GoodIn wsX2_digest wsX2_tells := goodIn_r _ [47, 13, 43, 39, 40, 41, 18, 42, 3, 8, 91, 92, 93, 94, 95, 96, 97, 98, 99, 100, 101, 102, 103, 104] (by decide +kernel) (by decide +kernel)
set_option maxRecDepth 20000 in
theorem gX2_digest_X2_tells : GoodIn wsX2_digest (wsV RX2 123 RX2 yX2_tells wsX2_tells) := goodIn_app (goodIn_of _ (by decide +kernel)) ggX2_digest_X2_tells
set_option maxRecDepth 20000 in
theorem ggX2_digest_X2_best : GoodIn wsX2_digest wsX2_best := goodIn_r _ [51, 13, 8, 91, 92, 93, 94, 95, 96, 97, 98, 99, 100, 101, 102, 103, 104] (by decide +kernel) (by decide +kernel)
set_option maxRecDepth 20000 in
theorem gX2_digest_X2_best : GoodIn wsX2_digest (wsV RX2 127 RX2 yX2_best wsX2_best) := goodIn_app (goodIn_of _ (by decide +kernel)) ggX2_digest_X2_best
set_option maxRecDepth 20000 in
theorem ggX2_digest_X2_honest : GoodIn wsX2_digest wsX2_honest := goodIn_r _ [55, 5, 24, 25, 26, 27, 7, 91, 92, 93, 94, 95, 96, 97, 98, 99, 100, 101, 102, 103, 104] (by decide +kernel) (by decide +kernel)
set_option maxRecDepth 20000 in
theorem gX2_digest_X2_honest : GoodIn wsX2_digest (wsV RX2 71 RX2 yX2_honest wsX2_honest) := goodIn_app (goodIn_of _ (by decide +kernel)) ggX2_digest_X2_honest
set_option maxRecDepth 20000 in
theorem ggX2_digest_X2_gets : GoodIn wsX2_digest wsX2_gets := goodIn_r _ [59, 6, 32, 33, 34, 18, 35, 13, 36, 37, 38, 91, 92, 93, 94, 95, 96, 97, 98, 99, 100, 101, 102, 103, 104] (by decide +kernel) (by decide +kernel)
set_option maxRecDepth 20000 in
theorem gX2_digest_X2_gets : GoodIn wsX2_digest (wsV RX2 133 RX2 yX2_gets wsX2_gets) := goodIn_app (goodIn_of _ (by decide +kernel)) ggX2_digest_X2_gets
set_option maxRecDepth 20000 in
theorem ggX2_digest_X2_untilFined : GoodIn wsX2_digest wsX2_untilFined := goodIn_r _ [63, 64, 65, 66, 18, 67, 5, 68, 69, 70, 71, 72, 73, 74, 75, 76, 4, 14, 77, 78, 26, 79, 80, 81, 82, 24, 25, 27, 52, 53, 54, 55, 7, 83, 84, 85, 86, 91, 92, 93, 94, 95, 96, 97, 98, 99, 100, 101, 102, 103, 104] (by decide +kernel) (by decide +kernel)
set_option maxRecDepth 20000 in
theorem gX2_digest_X2_untilFined : GoodIn wsX2_digest (wsV RX2 149 RX2 yX2_untilFined wsX2_untilFined) := goodIn_app (goodIn_of _ (by decide +kernel)) ggX2_digest_X2_untilFined
set_option maxRecDepth 20000 in
theorem ggX2_digest_X2_bestDay : GoodIn wsX2_digest wsX2_bestDay := goodIn_r _ [90, 5, 64, 65, 66, 18, 67, 68, 69, 70, 71, 72, 73, 74, 75, 76, 4, 14, 77, 78, 26, 79, 80, 81, 82, 24, 25, 27, 52, 53, 54, 55, 7, 83, 84, 85, 86, 91, 92, 93, 94, 95, 96, 97, 98, 99, 100, 101, 102, 103, 104] (by decide +kernel) (by decide +kernel)
set_option maxRecDepth 20000 in
theorem gX2_digest_X2_bestDay : GoodIn wsX2_digest (wsV RX2 152 RX2 yX2_bestDay wsX2_bestDay) := goodIn_app (goodIn_of _ (by decide +kernel)) ggX2_digest_X2_bestDay
theorem dX2_digest_0 : decode cX2_digest 0 = .ok (.aload_n 0, 1) := by decide +kernel
theorem dX2_digest_1 : decode cX2_digest 1 = .ok (.iconst 0, 1) := by decide +kernel
theorem dX2_digest_2 : decode cX2_digest 2 = .ok (.putfield 42, 3) := by decide +kernel
theorem dX2_digest_5 : decode cX2_digest 5 = .ok (.bipush 10, 2) := by decide +kernel
theorem dX2_digest_7 : decode cX2_digest 7 = .ok (.newarray .int, 2) := by decide +kernel
theorem dX2_digest_9 : decode cX2_digest 9 = .ok (.dup, 1) := by decide +kernel
theorem dX2_digest_10 : decode cX2_digest 10 = .ok (.iconst 0, 1) := by decide +kernel
theorem dX2_digest_11 : decode cX2_digest 11 = .ok (.aload_n 0, 1) := by decide +kernel
theorem dX2_digest_12 : decode cX2_digest 12 = .ok (.getfield 7, 3) := by decide +kernel
theorem dX2_digest_15 : decode cX2_digest 15 = .ok (.iastore, 1) := by decide +kernel
theorem dX2_digest_16 : decode cX2_digest 16 = .ok (.dup, 1) := by decide +kernel
theorem dX2_digest_17 : decode cX2_digest 17 = .ok (.iconst 1, 1) := by decide +kernel
theorem dX2_digest_18 : decode cX2_digest 18 = .ok (.aload_n 0, 1) := by decide +kernel
theorem dX2_digest_19 : decode cX2_digest 19 = .ok (.getfield 49, 3) := by decide +kernel
theorem dX2_digest_22 : decode cX2_digest 22 = .ok (.iastore, 1) := by decide +kernel
theorem dX2_digest_23 : decode cX2_digest 23 = .ok (.dup, 1) := by decide +kernel
theorem dX2_digest_24 : decode cX2_digest 24 = .ok (.iconst 2, 1) := by decide +kernel
theorem dX2_digest_25 : decode cX2_digest 25 = .ok (.aload_n 0, 1) := by decide +kernel
theorem dX2_digest_26 : decode cX2_digest 26 = .ok (.getfield 36, 3) := by decide +kernel
theorem dX2_digest_29 : decode cX2_digest 29 = .ok (.iconst 0, 1) := by decide +kernel
theorem dX2_digest_30 : decode cX2_digest 30 = .ok (.iaload, 1) := by decide +kernel
theorem dX2_digest_31 : decode cX2_digest 31 = .ok (.iastore, 1) := by decide +kernel
theorem dX2_digest_32 : decode cX2_digest 32 = .ok (.dup, 1) := by decide +kernel
theorem dX2_digest_33 : decode cX2_digest 33 = .ok (.iconst 3, 1) := by decide +kernel
theorem dX2_digest_34 : decode cX2_digest 34 = .ok (.aload_n 0, 1) := by decide +kernel
theorem dX2_digest_35 : decode cX2_digest 35 = .ok (.getfield 88, 3) := by decide +kernel
theorem dX2_digest_38 : decode cX2_digest 38 = .ok (.iastore, 1) := by decide +kernel
theorem dX2_digest_39 : decode cX2_digest 39 = .ok (.dup, 1) := by decide +kernel
theorem dX2_digest_40 : decode cX2_digest 40 = .ok (.iconst 4, 1) := by decide +kernel
theorem dX2_digest_41 : decode cX2_digest 41 = .ok (.aload_n 0, 1) := by decide +kernel
theorem dX2_digest_42 : decode cX2_digest 42 = .ok (.getfield 33, 3) := by decide +kernel
theorem dX2_digest_45 : decode cX2_digest 45 = .ok (.iastore, 1) := by decide +kernel
theorem dX2_digest_46 : decode cX2_digest 46 = .ok (.dup, 1) := by decide +kernel
theorem dX2_digest_47 : decode cX2_digest 47 = .ok (.iconst 5, 1) := by decide +kernel
theorem dX2_digest_48 : decode cX2_digest 48 = .ok (.aload_n 0, 1) := by decide +kernel
theorem dX2_digest_49 : decode cX2_digest 49 = .ok (.getfield 36, 3) := by decide +kernel
theorem dX2_digest_52 : decode cX2_digest 52 = .ok (.iconst 1, 1) := by decide +kernel
theorem dX2_digest_53 : decode cX2_digest 53 = .ok (.iaload, 1) := by decide +kernel
theorem dX2_digest_54 : decode cX2_digest 54 = .ok (.iastore, 1) := by decide +kernel
theorem dX2_digest_55 : decode cX2_digest 55 = .ok (.dup, 1) := by decide +kernel
theorem dX2_digest_56 : decode cX2_digest 56 = .ok (.bipush 6, 2) := by decide +kernel
theorem dX2_digest_58 : decode cX2_digest 58 = .ok (.aload_n 0, 1) := by decide +kernel
theorem dX2_digest_59 : decode cX2_digest 59 = .ok (.getfield 27, 3) := by decide +kernel
theorem dX2_digest_62 : decode cX2_digest 62 = .ok (.iconst 0, 1) := by decide +kernel
theorem dX2_digest_63 : decode cX2_digest 63 = .ok (.iaload, 1) := by decide +kernel
theorem dX2_digest_64 : decode cX2_digest 64 = .ok (.iastore, 1) := by decide +kernel
theorem dX2_digest_65 : decode cX2_digest 65 = .ok (.dup, 1) := by decide +kernel
theorem dX2_digest_66 : decode cX2_digest 66 = .ok (.bipush 7, 2) := by decide +kernel
theorem dX2_digest_68 : decode cX2_digest 68 = .ok (.aload_n 0, 1) := by decide +kernel
theorem dX2_digest_69 : decode cX2_digest 69 = .ok (.invokevirtual 109, 3) := by decide +kernel
theorem dX2_digest_72 : decode cX2_digest 72 = .ok (.iastore, 1) := by decide +kernel
theorem dX2_digest_73 : decode cX2_digest 73 = .ok (.dup, 1) := by decide +kernel
theorem dX2_digest_74 : decode cX2_digest 74 = .ok (.bipush 8, 2) := by decide +kernel
theorem dX2_digest_76 : decode cX2_digest 76 = .ok (.aload_n 0, 1) := by decide +kernel
theorem dX2_digest_77 : decode cX2_digest 77 = .ok (.invokevirtual 137, 3) := by decide +kernel
theorem dX2_digest_80 : decode cX2_digest 80 = .ok (.iastore, 1) := by decide +kernel
theorem dX2_digest_81 : decode cX2_digest 81 = .ok (.dup, 1) := by decide +kernel
theorem dX2_digest_82 : decode cX2_digest 82 = .ok (.bipush 9, 2) := by decide +kernel
theorem dX2_digest_84 : decode cX2_digest 84 = .ok (.aload_n 0, 1) := by decide +kernel
theorem dX2_digest_85 : decode cX2_digest 85 = .ok (.invokevirtual 140, 3) := by decide +kernel
theorem dX2_digest_88 : decode cX2_digest 88 = .ok (.iastore, 1) := by decide +kernel
theorem dX2_digest_89 : decode cX2_digest 89 = .ok (.astore_n 1, 1) := by decide +kernel
theorem dX2_digest_90 : decode cX2_digest 90 = .ok (.ldc2_w 155, 3) := by decide +kernel
theorem dX2_digest_93 : decode cX2_digest 93 = .ok (.lstore_n 2, 1) := by decide +kernel
theorem dX2_digest_94 : decode cX2_digest 94 = .ok (.aload_n 1, 1) := by decide +kernel
theorem dX2_digest_95 : decode cX2_digest 95 = .ok (.astore 4, 2) := by decide +kernel
theorem dX2_digest_97 : decode cX2_digest 97 = .ok (.aload 4, 2) := by decide +kernel
theorem dX2_digest_99 : decode cX2_digest 99 = .ok (.arraylength, 1) := by decide +kernel
theorem dX2_digest_100 : decode cX2_digest 100 = .ok (.istore 5, 2) := by decide +kernel
theorem dX2_digest_102 : decode cX2_digest 102 = .ok (.iconst 0, 1) := by decide +kernel
theorem dX2_digest_103 : decode cX2_digest 103 = .ok (.istore 6, 2) := by decide +kernel
theorem dX2_digest_105 : decode cX2_digest 105 = .ok (.iload 6, 2) := by decide +kernel
theorem dX2_digest_107 : decode cX2_digest 107 = .ok (.iload 5, 2) := by decide +kernel
theorem dX2_digest_109 : decode cX2_digest 109 = .ok (.if_icmp .ge 26, 3) := by decide +kernel
theorem dX2_digest_112 : decode cX2_digest 112 = .ok (.aload 4, 2) := by decide +kernel
theorem dX2_digest_114 : decode cX2_digest 114 = .ok (.iload 6, 2) := by decide +kernel
theorem dX2_digest_116 : decode cX2_digest 116 = .ok (.iaload, 1) := by decide +kernel
theorem dX2_digest_117 : decode cX2_digest 117 = .ok (.istore 7, 2) := by decide +kernel
theorem dX2_digest_119 : decode cX2_digest 119 = .ok (.lload_n 2, 1) := by decide +kernel
theorem dX2_digest_120 : decode cX2_digest 120 = .ok (.ldc2_w 157, 3) := by decide +kernel
theorem dX2_digest_123 : decode cX2_digest 123 = .ok (.lmul, 1) := by decide +kernel
theorem dX2_digest_124 : decode cX2_digest 124 = .ok (.iload 7, 2) := by decide +kernel
theorem dX2_digest_126 : decode cX2_digest 126 = .ok (.i2l, 1) := by decide +kernel
theorem dX2_digest_127 : decode cX2_digest 127 = .ok (.ladd, 1) := by decide +kernel
theorem dX2_digest_128 : decode cX2_digest 128 = .ok (.lstore_n 2, 1) := by decide +kernel
theorem dX2_digest_129 : decode cX2_digest 129 = .ok (.iinc 6 1, 3) := by decide +kernel
theorem dX2_digest_132 : decode cX2_digest 132 = .ok (.goto (-27), 3) := by decide +kernel
theorem dX2_digest_135 : decode cX2_digest 135 = .ok (.iconst 0, 1) := by decide +kernel
theorem dX2_digest_136 : decode cX2_digest 136 = .ok (.istore 4, 2) := by decide +kernel
theorem dX2_digest_138 : decode cX2_digest 138 = .ok (.iload 4, 2) := by decide +kernel
theorem dX2_digest_140 : decode cX2_digest 140 = .ok (.aload_n 0, 1) := by decide +kernel
theorem dX2_digest_141 : decode cX2_digest 141 = .ok (.getfield 7, 3) := by decide +kernel
theorem dX2_digest_144 : decode cX2_digest 144 = .ok (.if_icmp .ge 121, 3) := by decide +kernel
theorem dX2_digest_147 : decode cX2_digest 147 = .ok (.lload_n 2, 1) := by decide +kernel
theorem dX2_digest_148 : decode cX2_digest 148 = .ok (.ldc2_w 157, 3) := by decide +kernel
theorem dX2_digest_151 : decode cX2_digest 151 = .ok (.lmul, 1) := by decide +kernel
theorem dX2_digest_152 : decode cX2_digest 152 = .ok (.aload_n 0, 1) := by decide +kernel
theorem dX2_digest_153 : decode cX2_digest 153 = .ok (.getfield 13, 3) := by decide +kernel
theorem dX2_digest_156 : decode cX2_digest 156 = .ok (.iload 4, 2) := by decide +kernel
theorem dX2_digest_158 : decode cX2_digest 158 = .ok (.iaload, 1) := by decide +kernel
theorem dX2_digest_159 : decode cX2_digest 159 = .ok (.i2l, 1) := by decide +kernel
theorem dX2_digest_160 : decode cX2_digest 160 = .ok (.ladd, 1) := by decide +kernel
theorem dX2_digest_161 : decode cX2_digest 161 = .ok (.lstore_n 2, 1) := by decide +kernel
theorem dX2_digest_162 : decode cX2_digest 162 = .ok (.lload_n 2, 1) := by decide +kernel
theorem dX2_digest_163 : decode cX2_digest 163 = .ok (.ldc2_w 157, 3) := by decide +kernel
theorem dX2_digest_166 : decode cX2_digest 166 = .ok (.lmul, 1) := by decide +kernel
theorem dX2_digest_167 : decode cX2_digest 167 = .ok (.aload_n 0, 1) := by decide +kernel
theorem dX2_digest_168 : decode cX2_digest 168 = .ok (.iload 4, 2) := by decide +kernel
theorem dX2_digest_170 : decode cX2_digest 170 = .ok (.aload_n 0, 1) := by decide +kernel
theorem dX2_digest_171 : decode cX2_digest 171 = .ok (.getfield 88, 3) := by decide +kernel
theorem dX2_digest_174 : decode cX2_digest 174 = .ok (.invokevirtual 105, 3) := by decide +kernel
theorem dX2_digest_177 : decode cX2_digest 177 = .ok (.ladd, 1) := by decide +kernel
theorem dX2_digest_178 : decode cX2_digest 178 = .ok (.lstore_n 2, 1) := by decide +kernel
theorem dX2_digest_179 : decode cX2_digest 179 = .ok (.lload_n 2, 1) := by decide +kernel
theorem dX2_digest_180 : decode cX2_digest 180 = .ok (.ldc2_w 157, 3) := by decide +kernel
theorem dX2_digest_183 : decode cX2_digest 183 = .ok (.lmul, 1) := by decide +kernel
theorem dX2_digest_184 : decode cX2_digest 184 = .ok (.aload_n 0, 1) := by decide +kernel
theorem dX2_digest_185 : decode cX2_digest 185 = .ok (.aload_n 0, 1) := by decide +kernel
theorem dX2_digest_186 : decode cX2_digest 186 = .ok (.getfield 88, 3) := by decide +kernel
theorem dX2_digest_189 : decode cX2_digest 189 = .ok (.iload 4, 2) := by decide +kernel
theorem dX2_digest_191 : decode cX2_digest 191 = .ok (.invokevirtual 105, 3) := by decide +kernel
theorem dX2_digest_194 : decode cX2_digest 194 = .ok (.ladd, 1) := by decide +kernel
theorem dX2_digest_195 : decode cX2_digest 195 = .ok (.lstore_n 2, 1) := by decide +kernel
theorem dX2_digest_196 : decode cX2_digest 196 = .ok (.lload_n 2, 1) := by decide +kernel
theorem dX2_digest_197 : decode cX2_digest 197 = .ok (.ldc2_w 157, 3) := by decide +kernel
theorem dX2_digest_200 : decode cX2_digest 200 = .ok (.lmul, 1) := by decide +kernel
theorem dX2_digest_201 : decode cX2_digest 201 = .ok (.aload_n 0, 1) := by decide +kernel
theorem dX2_digest_202 : decode cX2_digest 202 = .ok (.ldc2_w 159, 3) := by decide +kernel
theorem dX2_digest_205 : decode cX2_digest 205 = .ok (.aload_n 0, 1) := by decide +kernel
theorem dX2_digest_206 : decode cX2_digest 206 = .ok (.getfield 23, 3) := by decide +kernel
theorem dX2_digest_209 : decode cX2_digest 209 = .ok (.iload 4, 2) := by decide +kernel
theorem dX2_digest_211 : decode cX2_digest 211 = .ok (.laload, 1) := by decide +kernel
theorem dX2_digest_212 : decode cX2_digest 212 = .ok (.lmul, 1) := by decide +kernel
theorem dX2_digest_213 : decode cX2_digest 213 = .ok (.iconst (-1), 1) := by decide +kernel
theorem dX2_digest_214 : decode cX2_digest 214 = .ok (.invokevirtual 119, 3) := by decide +kernel
theorem dX2_digest_217 : decode cX2_digest 217 = .ok (.ladd, 1) := by decide +kernel
theorem dX2_digest_218 : decode cX2_digest 218 = .ok (.lstore_n 2, 1) := by decide +kernel
theorem dX2_digest_219 : decode cX2_digest 219 = .ok (.lload_n 2, 1) := by decide +kernel
theorem dX2_digest_220 : decode cX2_digest 220 = .ok (.ldc2_w 157, 3) := by decide +kernel
theorem dX2_digest_223 : decode cX2_digest 223 = .ok (.lmul, 1) := by decide +kernel
theorem dX2_digest_224 : decode cX2_digest 224 = .ok (.aload_n 0, 1) := by decide +kernel
theorem dX2_digest_225 : decode cX2_digest 225 = .ok (.bipush 7, 2) := by decide +kernel
theorem dX2_digest_227 : decode cX2_digest 227 = .ok (.iload 4, 2) := by decide +kernel
theorem dX2_digest_229 : decode cX2_digest 229 = .ok (.invokevirtual 123, 3) := by decide +kernel
theorem dX2_digest_232 : decode cX2_digest 232 = .ok (.ifCond .eq 7, 3) := by decide +kernel
theorem dX2_digest_235 : decode cX2_digest 235 = .ok (.iconst 1, 1) := by decide +kernel
theorem dX2_digest_236 : decode cX2_digest 236 = .ok (.goto 4, 3) := by decide +kernel
theorem dX2_digest_239 : decode cX2_digest 239 = .ok (.iconst 0, 1) := by decide +kernel
theorem dX2_digest_240 : decode cX2_digest 240 = .ok (.i2l, 1) := by decide +kernel
theorem dX2_digest_241 : decode cX2_digest 241 = .ok (.ladd, 1) := by decide +kernel
theorem dX2_digest_242 : decode cX2_digest 242 = .ok (.lstore_n 2, 1) := by decide +kernel
theorem dX2_digest_243 : decode cX2_digest 243 = .ok (.lload_n 2, 1) := by decide +kernel
theorem dX2_digest_244 : decode cX2_digest 244 = .ok (.ldc2_w 157, 3) := by decide +kernel
theorem dX2_digest_247 : decode cX2_digest 247 = .ok (.lmul, 1) := by decide +kernel
theorem dX2_digest_248 : decode cX2_digest 248 = .ok (.aload_n 0, 1) := by decide +kernel
theorem dX2_digest_249 : decode cX2_digest 249 = .ok (.bipush 7, 2) := by decide +kernel
theorem dX2_digest_251 : decode cX2_digest 251 = .ok (.iload 4, 2) := by decide +kernel
theorem dX2_digest_253 : decode cX2_digest 253 = .ok (.invokevirtual 127, 3) := by decide +kernel
theorem dX2_digest_256 : decode cX2_digest 256 = .ok (.i2l, 1) := by decide +kernel
theorem dX2_digest_257 : decode cX2_digest 257 = .ok (.ladd, 1) := by decide +kernel
theorem dX2_digest_258 : decode cX2_digest 258 = .ok (.lstore_n 2, 1) := by decide +kernel
theorem dX2_digest_259 : decode cX2_digest 259 = .ok (.iinc 4 1, 3) := by decide +kernel
theorem dX2_digest_262 : decode cX2_digest 262 = .ok (.goto (-124), 3) := by decide +kernel
theorem dX2_digest_265 : decode cX2_digest 265 = .ok (.iconst 0, 1) := by decide +kernel
theorem dX2_digest_266 : decode cX2_digest 266 = .ok (.istore 4, 2) := by decide +kernel
theorem dX2_digest_268 : decode cX2_digest 268 = .ok (.iload 4, 2) := by decide +kernel
theorem dX2_digest_270 : decode cX2_digest 270 = .ok (.aload_n 0, 1) := by decide +kernel
theorem dX2_digest_271 : decode cX2_digest 271 = .ok (.getfield 49, 3) := by decide +kernel
theorem dX2_digest_274 : decode cX2_digest 274 = .ok (.if_icmp .ge 116, 3) := by decide +kernel
theorem dX2_digest_277 : decode cX2_digest 277 = .ok (.lload_n 2, 1) := by decide +kernel
theorem dX2_digest_278 : decode cX2_digest 278 = .ok (.ldc2_w 157, 3) := by decide +kernel
theorem dX2_digest_281 : decode cX2_digest 281 = .ok (.lmul, 1) := by decide +kernel
theorem dX2_digest_282 : decode cX2_digest 282 = .ok (.aload_n 0, 1) := by decide +kernel
theorem dX2_digest_283 : decode cX2_digest 283 = .ok (.getfield 36, 3) := by decide +kernel
theorem dX2_digest_286 : decode cX2_digest 286 = .ok (.iconst 2, 1) := by decide +kernel
theorem dX2_digest_287 : decode cX2_digest 287 = .ok (.iload 4, 2) := by decide +kernel
theorem dX2_digest_289 : decode cX2_digest 289 = .ok (.iadd, 1) := by decide +kernel
theorem dX2_digest_290 : decode cX2_digest 290 = .ok (.iaload, 1) := by decide +kernel
theorem dX2_digest_291 : decode cX2_digest 291 = .ok (.i2l, 1) := by decide +kernel
theorem dX2_digest_292 : decode cX2_digest 292 = .ok (.ladd, 1) := by decide +kernel
theorem dX2_digest_293 : decode cX2_digest 293 = .ok (.lstore_n 2, 1) := by decide +kernel
theorem dX2_digest_294 : decode cX2_digest 294 = .ok (.lload_n 2, 1) := by decide +kernel
theorem dX2_digest_295 : decode cX2_digest 295 = .ok (.ldc2_w 157, 3) := by decide +kernel
theorem dX2_digest_298 : decode cX2_digest 298 = .ok (.lmul, 1) := by decide +kernel
theorem dX2_digest_299 : decode cX2_digest 299 = .ok (.aload_n 0, 1) := by decide +kernel
theorem dX2_digest_300 : decode cX2_digest 300 = .ok (.getfield 30, 3) := by decide +kernel
theorem dX2_digest_303 : decode cX2_digest 303 = .ok (.iload 4, 2) := by decide +kernel
theorem dX2_digest_305 : decode cX2_digest 305 = .ok (.iaload, 1) := by decide +kernel
theorem dX2_digest_306 : decode cX2_digest 306 = .ok (.i2l, 1) := by decide +kernel
theorem dX2_digest_307 : decode cX2_digest 307 = .ok (.ladd, 1) := by decide +kernel
theorem dX2_digest_308 : decode cX2_digest 308 = .ok (.lstore_n 2, 1) := by decide +kernel
theorem dX2_digest_309 : decode cX2_digest 309 = .ok (.lload_n 2, 1) := by decide +kernel
theorem dX2_digest_310 : decode cX2_digest 310 = .ok (.ldc2_w 157, 3) := by decide +kernel
theorem dX2_digest_313 : decode cX2_digest 313 = .ok (.lmul, 1) := by decide +kernel
theorem dX2_digest_314 : decode cX2_digest 314 = .ok (.aload_n 0, 1) := by decide +kernel
theorem dX2_digest_315 : decode cX2_digest 315 = .ok (.iload 4, 2) := by decide +kernel
theorem dX2_digest_317 : decode cX2_digest 317 = .ok (.invokevirtual 71, 3) := by decide +kernel
theorem dX2_digest_320 : decode cX2_digest 320 = .ok (.ifCond .eq 7, 3) := by decide +kernel
theorem dX2_digest_323 : decode cX2_digest 323 = .ok (.iconst 1, 1) := by decide +kernel
theorem dX2_digest_324 : decode cX2_digest 324 = .ok (.goto 4, 3) := by decide +kernel
theorem dX2_digest_327 : decode cX2_digest 327 = .ok (.iconst 0, 1) := by decide +kernel
theorem dX2_digest_328 : decode cX2_digest 328 = .ok (.i2l, 1) := by decide +kernel
theorem dX2_digest_329 : decode cX2_digest 329 = .ok (.ladd, 1) := by decide +kernel
theorem dX2_digest_330 : decode cX2_digest 330 = .ok (.lstore_n 2, 1) := by decide +kernel
theorem dX2_digest_331 : decode cX2_digest 331 = .ok (.lload_n 2, 1) := by decide +kernel
theorem dX2_digest_332 : decode cX2_digest 332 = .ok (.ldc2_w 157, 3) := by decide +kernel
theorem dX2_digest_335 : decode cX2_digest 335 = .ok (.lmul, 1) := by decide +kernel
theorem dX2_digest_336 : decode cX2_digest 336 = .ok (.aload_n 0, 1) := by decide +kernel
theorem dX2_digest_337 : decode cX2_digest 337 = .ok (.iconst 5, 1) := by decide +kernel
theorem dX2_digest_338 : decode cX2_digest 338 = .ok (.aload_n 0, 1) := by decide +kernel
theorem dX2_digest_339 : decode cX2_digest 339 = .ok (.getfield 88, 3) := by decide +kernel
theorem dX2_digest_342 : decode cX2_digest 342 = .ok (.aload_n 0, 1) := by decide +kernel
theorem dX2_digest_343 : decode cX2_digest 343 = .ok (.getfield 36, 3) := by decide +kernel
theorem dX2_digest_346 : decode cX2_digest 346 = .ok (.iconst 2, 1) := by decide +kernel
theorem dX2_digest_347 : decode cX2_digest 347 = .ok (.iload 4, 2) := by decide +kernel
theorem dX2_digest_349 : decode cX2_digest 349 = .ok (.iadd, 1) := by decide +kernel
theorem dX2_digest_350 : decode cX2_digest 350 = .ok (.iaload, 1) := by decide +kernel
theorem dX2_digest_351 : decode cX2_digest 351 = .ok (.invokevirtual 133, 3) := by decide +kernel
theorem dX2_digest_354 : decode cX2_digest 354 = .ok (.ladd, 1) := by decide +kernel
theorem dX2_digest_355 : decode cX2_digest 355 = .ok (.lstore_n 2, 1) := by decide +kernel
theorem dX2_digest_356 : decode cX2_digest 356 = .ok (.lload_n 2, 1) := by decide +kernel
theorem dX2_digest_357 : decode cX2_digest 357 = .ok (.ldc2_w 157, 3) := by decide +kernel
theorem dX2_digest_360 : decode cX2_digest 360 = .ok (.lmul, 1) := by decide +kernel
theorem dX2_digest_361 : decode cX2_digest 361 = .ok (.aload_n 0, 1) := by decide +kernel
theorem dX2_digest_362 : decode cX2_digest 362 = .ok (.iload 4, 2) := by decide +kernel
theorem dX2_digest_364 : decode cX2_digest 364 = .ok (.invokevirtual 149, 3) := by decide +kernel
theorem dX2_digest_367 : decode cX2_digest 367 = .ok (.i2l, 1) := by decide +kernel
theorem dX2_digest_368 : decode cX2_digest 368 = .ok (.ladd, 1) := by decide +kernel
theorem dX2_digest_369 : decode cX2_digest 369 = .ok (.lstore_n 2, 1) := by decide +kernel
theorem dX2_digest_370 : decode cX2_digest 370 = .ok (.lload_n 2, 1) := by decide +kernel
theorem dX2_digest_371 : decode cX2_digest 371 = .ok (.ldc2_w 157, 3) := by decide +kernel
theorem dX2_digest_374 : decode cX2_digest 374 = .ok (.lmul, 1) := by decide +kernel
theorem dX2_digest_375 : decode cX2_digest 375 = .ok (.aload_n 0, 1) := by decide +kernel
theorem dX2_digest_376 : decode cX2_digest 376 = .ok (.iload 4, 2) := by decide +kernel
theorem dX2_digest_378 : decode cX2_digest 378 = .ok (.invokevirtual 152, 3) := by decide +kernel
theorem dX2_digest_381 : decode cX2_digest 381 = .ok (.i2l, 1) := by decide +kernel
theorem dX2_digest_382 : decode cX2_digest 382 = .ok (.ladd, 1) := by decide +kernel
theorem dX2_digest_383 : decode cX2_digest 383 = .ok (.lstore_n 2, 1) := by decide +kernel
theorem dX2_digest_384 : decode cX2_digest 384 = .ok (.iinc 4 1, 3) := by decide +kernel
theorem dX2_digest_387 : decode cX2_digest 387 = .ok (.goto (-119), 3) := by decide +kernel
theorem dX2_digest_390 : decode cX2_digest 390 = .ok (.lload_n 2, 1) := by decide +kernel
theorem dX2_digest_391 : decode cX2_digest 391 = .ok (.lreturn, 1) := by decide +kernel
