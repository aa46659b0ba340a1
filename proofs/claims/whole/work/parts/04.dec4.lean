theorem dX9_meaning_33 : decode cX9_meaning 33 = .ok (.aload 8, 2) := by decide +kernel
theorem dX9_meaning_35 : decode cX9_meaning 35 = .ok (.ifnull 15, 3) := by decide +kernel
theorem dX9_meaning_38 : decode cX9_meaning 38 = .ok (.aload 8, 2) := by decide +kernel
theorem dX9_meaning_40 : decode cX9_meaning 40 = .ok (.iload 4, 2) := by decide +kernel
theorem dX9_meaning_42 : decode cX9_meaning 42 = .ok (.iload 5, 2) := by decide +kernel
theorem dX9_meaning_44 : decode cX9_meaning 44 = .ok (.invokevirtual 96, 3) := by decide +kernel
theorem dX9_meaning_47 : decode cX9_meaning 47 = .ok (.ifCond .ne 9, 3) := by decide +kernel
theorem dX9_meaning_50 : decode cX9_meaning 50 = .ok (.bipush (-100), 2) := by decide +kernel
theorem dX9_meaning_52 : decode cX9_meaning 52 = .ok (.iload 7, 2) := by decide +kernel
theorem dX9_meaning_54 : decode cX9_meaning 54 = .ok (.isub, 1) := by decide +kernel
theorem dX9_meaning_55 : decode cX9_meaning 55 = .ok (.ireturn, 1) := by decide +kernel
theorem dX9_meaning_56 : decode cX9_meaning 56 = .ok (.iload 6, 2) := by decide +kernel
theorem dX9_meaning_58 : decode cX9_meaning 58 = .ok (.aload 8, 2) := by decide +kernel
theorem dX9_meaning_60 : decode cX9_meaning 60 = .ok (.invokevirtual 207, 3) := by decide +kernel
theorem dX9_meaning_63 : decode cX9_meaning 63 = .ok (.iadd, 1) := by decide +kernel
theorem dX9_meaning_64 : decode cX9_meaning 64 = .ok (.istore 6, 2) := by decide +kernel
theorem dX9_meaning_66 : decode cX9_meaning 66 = .ok (.iinc 7 1, 3) := by decide +kernel
theorem dX9_meaning_69 : decode cX9_meaning 69 = .ok (.goto (-63), 3) := by decide +kernel
theorem dX9_meaning_72 : decode cX9_meaning 72 = .ok (.iload 6, 2) := by decide +kernel
theorem dX9_meaning_74 : decode cX9_meaning 74 = .ok (.ireturn, 1) := by decide +kernel
theorem dX9_fewestWords_0 : decode cX9_fewestWords 0 = .ok (.aload_n 0, 1) := by decide +kernel
theorem dX9_fewestWords_1 : decode cX9_fewestWords 1 = .ok (.getfield 28, 3) := by decide +kernel
theorem dX9_fewestWords_4 : decode cX9_fewestWords 4 = .ok (.aload_n 0, 1) := by decide +kernel
theorem dX9_fewestWords_5 : decode cX9_fewestWords 5 = .ok (.getfield 42, 3) := by decide +kernel
theorem dX9_fewestWords_8 : decode cX9_fewestWords 8 = .ok (.iload_n 2, 1) := by decide +kernel
theorem dX9_fewestWords_9 : decode cX9_fewestWords 9 = .ok (.iload_n 3, 1) := by decide +kernel
theorem dX9_fewestWords_10 : decode cX9_fewestWords 10 = .ok (.iconst (-1), 1) := by decide +kernel
theorem dX9_fewestWords_11 : decode cX9_fewestWords 11 = .ok (.invokevirtual 128, 3) := by decide +kernel
theorem dX9_fewestWords_14 : decode cX9_fewestWords 14 = .ok (.aload_n 0, 1) := by decide +kernel
theorem dX9_fewestWords_15 : decode cX9_fewestWords 15 = .ok (.getfield 42, 3) := by decide +kernel
theorem dX9_fewestWords_18 : decode cX9_fewestWords 18 = .ok (.iload_n 1, 1) := by decide +kernel
theorem dX9_fewestWords_19 : decode cX9_fewestWords 19 = .ok (.invokevirtual 210, 3) := by decide +kernel
theorem dX9_fewestWords_22 : decode cX9_fewestWords 22 = .ok (.istore 4, 2) := by decide +kernel
theorem dX9_fewestWords_24 : decode cX9_fewestWords 24 = .ok (.iload 4, 2) := by decide +kernel
theorem dX9_fewestWords_26 : decode cX9_fewestWords 26 = .ok (.ldc 213, 2) := by decide +kernel
theorem dX9_fewestWords_28 : decode cX9_fewestWords 28 = .ok (.if_icmp .ge 8, 3) := by decide +kernel
theorem dX9_fewestWords_31 : decode cX9_fewestWords 31 = .ok (.iload 4, 2) := by decide +kernel
theorem dX9_fewestWords_33 : decode cX9_fewestWords 33 = .ok (.goto 5, 3) := by decide +kernel
theorem dX9_fewestWords_36 : decode cX9_fewestWords 36 = .ok (.bipush (-9), 2) := by decide +kernel
theorem dX9_fewestWords_38 : decode cX9_fewestWords 38 = .ok (.ireturn, 1) := by decide +kernel
theorem dX9_numberAt_0 : decode cX9_numberAt 0 = .ok (.bipush (-9), 2) := by decide +kernel
theorem dX9_numberAt_2 : decode cX9_numberAt 2 = .ok (.istore 5, 2) := by decide +kernel
theorem dX9_numberAt_4 : decode cX9_numberAt 4 = .ok (.iload_n 2, 1) := by decide +kernel
theorem dX9_numberAt_5 : decode cX9_numberAt 5 = .ok (.istore 6, 2) := by decide +kernel
theorem dX9_numberAt_7 : decode cX9_numberAt 7 = .ok (.iconst 0, 1) := by decide +kernel
theorem dX9_numberAt_8 : decode cX9_numberAt 8 = .ok (.istore 7, 2) := by decide +kernel
theorem dX9_numberAt_10 : decode cX9_numberAt 10 = .ok (.iload 7, 2) := by decide +kernel
theorem dX9_numberAt_12 : decode cX9_numberAt 12 = .ok (.iload_n 1, 1) := by decide +kernel
theorem dX9_numberAt_13 : decode cX9_numberAt 13 = .ok (.if_icmp .gt 34, 3) := by decide +kernel
theorem dX9_numberAt_16 : decode cX9_numberAt 16 = .ok (.aload_n 0, 1) := by decide +kernel
theorem dX9_numberAt_17 : decode cX9_numberAt 17 = .ok (.getfield 28, 3) := by decide +kernel
theorem dX9_numberAt_20 : decode cX9_numberAt 20 = .ok (.aload_n 0, 1) := by decide +kernel
theorem dX9_numberAt_21 : decode cX9_numberAt 21 = .ok (.getfield 42, 3) := by decide +kernel
theorem dX9_numberAt_24 : decode cX9_numberAt 24 = .ok (.iload 6, 2) := by decide +kernel
theorem dX9_numberAt_26 : decode cX9_numberAt 26 = .ok (.iload_n 3, 1) := by decide +kernel
theorem dX9_numberAt_27 : decode cX9_numberAt 27 = .ok (.iload 4, 2) := by decide +kernel
theorem dX9_numberAt_29 : decode cX9_numberAt 29 = .ok (.invokevirtual 214, 3) := by decide +kernel
theorem dX9_numberAt_32 : decode cX9_numberAt 32 = .ok (.istore 5, 2) := by decide +kernel
theorem dX9_numberAt_34 : decode cX9_numberAt 34 = .ok (.iload 6, 2) := by decide +kernel
theorem dX9_numberAt_36 : decode cX9_numberAt 36 = .ok (.iload 5, 2) := by decide +kernel
theorem dX9_numberAt_38 : decode cX9_numberAt 38 = .ok (.isub, 1) := by decide +kernel
theorem dX9_numberAt_39 : decode cX9_numberAt 39 = .ok (.istore 6, 2) := by decide +kernel
theorem dX9_numberAt_41 : decode cX9_numberAt 41 = .ok (.iinc 7 1, 3) := by decide +kernel
theorem dX9_numberAt_44 : decode cX9_numberAt 44 = .ok (.goto (-34), 3) := by decide +kernel
theorem dX9_numberAt_47 : decode cX9_numberAt 47 = .ok (.iload 5, 2) := by decide +kernel
theorem dX9_numberAt_49 : decode cX9_numberAt 49 = .ok (.ireturn, 1) := by decide +kernel
theorem dX9_bargainsSaid_0 : decode cX9_bargainsSaid 0 = .ok (.iconst 0, 1) := by decide +kernel
theorem dX9_bargainsSaid_1 : decode cX9_bargainsSaid 1 = .ok (.istore 6, 2) := by decide +kernel
theorem dX9_bargainsSaid_3 : decode cX9_bargainsSaid 3 = .ok (.iconst 0, 1) := by decide +kernel
theorem dX9_bargainsSaid_4 : decode cX9_bargainsSaid 4 = .ok (.istore 7, 2) := by decide +kernel
theorem dX9_bargainsSaid_6 : decode cX9_bargainsSaid 6 = .ok (.iload 7, 2) := by decide +kernel
theorem dX9_bargainsSaid_8 : decode cX9_bargainsSaid 8 = .ok (.iload 5, 2) := by decide +kernel
theorem dX9_bargainsSaid_10 : decode cX9_bargainsSaid 10 = .ok (.if_icmp .ge 37, 3) := by decide +kernel
theorem dX9_bargainsSaid_13 : decode cX9_bargainsSaid 13 = .ok (.aload_n 0, 1) := by decide +kernel
theorem dX9_bargainsSaid_14 : decode cX9_bargainsSaid 14 = .ok (.getfield 42, 3) := by decide +kernel
theorem dX9_bargainsSaid_17 : decode cX9_bargainsSaid 17 = .ok (.iload_n 1, 1) := by decide +kernel
theorem dX9_bargainsSaid_18 : decode cX9_bargainsSaid 18 = .ok (.aload_n 0, 1) := by decide +kernel
theorem dX9_bargainsSaid_19 : decode cX9_bargainsSaid 19 = .ok (.getfield 12, 3) := by decide +kernel
theorem dX9_bargainsSaid_22 : decode cX9_bargainsSaid 22 = .ok (.iload_n 3, 1) := by decide +kernel
theorem dX9_bargainsSaid_23 : decode cX9_bargainsSaid 23 = .ok (.iload 4, 2) := by decide +kernel
theorem dX9_bargainsSaid_25 : decode cX9_bargainsSaid 25 = .ok (.iload 7, 2) := by decide +kernel
theorem dX9_bargainsSaid_27 : decode cX9_bargainsSaid 27 = .ok (.iadd, 1) := by decide +kernel
theorem dX9_bargainsSaid_28 : decode cX9_bargainsSaid 28 = .ok (.invokevirtual 180, 3) := by decide +kernel
theorem dX9_bargainsSaid_31 : decode cX9_bargainsSaid 31 = .ok (.iload_n 2, 1) := by decide +kernel
theorem dX9_bargainsSaid_32 : decode cX9_bargainsSaid 32 = .ok (.invokevirtual 218, 3) := by decide +kernel
theorem dX9_bargainsSaid_35 : decode cX9_bargainsSaid 35 = .ok (.ifCond .eq 6, 3) := by decide +kernel
theorem dX9_bargainsSaid_38 : decode cX9_bargainsSaid 38 = .ok (.iinc 6 1, 3) := by decide +kernel
theorem dX9_bargainsSaid_41 : decode cX9_bargainsSaid 41 = .ok (.iinc 7 1, 3) := by decide +kernel
theorem dX9_bargainsSaid_44 : decode cX9_bargainsSaid 44 = .ok (.goto (-38), 3) := by decide +kernel
theorem dX9_bargainsSaid_47 : decode cX9_bargainsSaid 47 = .ok (.iload 6, 2) := by decide +kernel
theorem dX9_bargainsSaid_49 : decode cX9_bargainsSaid 49 = .ok (.ireturn, 1) := by decide +kernel
theorem dX9_reduced_0 : decode cX9_reduced 0 = .ok (.bipush 99, 2) := by decide +kernel
theorem dX9_reduced_2 : decode cX9_reduced 2 = .ok (.istore_n 2, 1) := by decide +kernel
theorem dX9_reduced_3 : decode cX9_reduced 3 = .ok (.iload_n 2, 1) := by decide +kernel
theorem dX9_reduced_4 : decode cX9_reduced 4 = .ok (.iconst 1, 1) := by decide +kernel
theorem dX9_reduced_5 : decode cX9_reduced 5 = .ok (.if_icmp .le 25, 3) := by decide +kernel
theorem dX9_reduced_8 : decode cX9_reduced 8 = .ok (.iload_n 0, 1) := by decide +kernel
theorem dX9_reduced_9 : decode cX9_reduced 9 = .ok (.iload_n 2, 1) := by decide +kernel
theorem dX9_reduced_10 : decode cX9_reduced 10 = .ok (.irem, 1) := by decide +kernel
theorem dX9_reduced_11 : decode cX9_reduced 11 = .ok (.ifCond .ne 13, 3) := by decide +kernel
theorem dX9_reduced_14 : decode cX9_reduced 14 = .ok (.iload_n 1, 1) := by decide +kernel
theorem dX9_reduced_15 : decode cX9_reduced 15 = .ok (.iload_n 2, 1) := by decide +kernel
theorem dX9_reduced_16 : decode cX9_reduced 16 = .ok (.irem, 1) := by decide +kernel
theorem dX9_reduced_17 : decode cX9_reduced 17 = .ok (.ifCond .ne 7, 3) := by decide +kernel
theorem dX9_reduced_20 : decode cX9_reduced 20 = .ok (.iload_n 0, 1) := by decide +kernel
theorem dX9_reduced_21 : decode cX9_reduced 21 = .ok (.iload_n 2, 1) := by decide +kernel
theorem dX9_reduced_22 : decode cX9_reduced 22 = .ok (.idiv, 1) := by decide +kernel
theorem dX9_reduced_23 : decode cX9_reduced 23 = .ok (.ireturn, 1) := by decide +kernel
theorem dX9_reduced_24 : decode cX9_reduced 24 = .ok (.iinc 2 (-1), 3) := by decide +kernel
theorem dX9_reduced_27 : decode cX9_reduced 27 = .ok (.goto (-24), 3) := by decide +kernel
theorem dX9_reduced_30 : decode cX9_reduced 30 = .ok (.iload_n 0, 1) := by decide +kernel
theorem dX9_reduced_31 : decode cX9_reduced 31 = .ok (.ireturn, 1) := by decide +kernel
theorem dX10_init_0 : decode cX10_init 0 = .ok (.aload_n 0, 1) := by decide +kernel
theorem dX10_init_1 : decode cX10_init 1 = .ok (.invokespecial 1, 3) := by decide +kernel
theorem dX10_init_4 : decode cX10_init 4 = .ok (.aload_n 0, 1) := by decide +kernel
theorem dX10_init_5 : decode cX10_init 5 = .ok (.bipush 10, 2) := by decide +kernel
theorem dX10_init_7 : decode cX10_init 7 = .ok (.newarray .int, 2) := by decide +kernel
theorem dX10_init_9 : decode cX10_init 9 = .ok (.putfield 7, 3) := by decide +kernel
theorem dX10_init_12 : decode cX10_init 12 = .ok (.aload_n 0, 1) := by decide +kernel
theorem dX10_init_13 : decode cX10_init 13 = .ok (.bipush 10, 2) := by decide +kernel
theorem dX10_init_15 : decode cX10_init 15 = .ok (.newarray .int, 2) := by decide +kernel
theorem dX10_init_17 : decode cX10_init 17 = .ok (.putfield 13, 3) := by decide +kernel
theorem dX10_init_20 : decode cX10_init 20 = .ok (.aload_n 0, 1) := by decide +kernel
theorem dX10_init_21 : decode cX10_init 21 = .ok (.bipush 10, 2) := by decide +kernel
theorem dX10_init_23 : decode cX10_init 23 = .ok (.newarray .int, 2) := by decide +kernel
theorem dX10_init_25 : decode cX10_init 25 = .ok (.putfield 16, 3) := by decide +kernel
theorem dX10_init_28 : decode cX10_init 28 = .ok (.aload_n 0, 1) := by decide +kernel
theorem dX10_init_29 : decode cX10_init 29 = .ok (.bipush 10, 2) := by decide +kernel
theorem dX10_init_31 : decode cX10_init 31 = .ok (.newarray .int, 2) := by decide +kernel
theorem dX10_init_33 : decode cX10_init 33 = .ok (.putfield 19, 3) := by decide +kernel
theorem dX10_init_36 : decode cX10_init 36 = .ok (.aload_n 0, 1) := by decide +kernel
theorem dX10_init_37 : decode cX10_init 37 = .ok (.bipush 10, 2) := by decide +kernel
theorem dX10_init_39 : decode cX10_init 39 = .ok (.newarray .int, 2) := by decide +kernel
theorem dX10_init_41 : decode cX10_init 41 = .ok (.putfield 22, 3) := by decide +kernel
theorem dX10_init_44 : decode cX10_init 44 = .ok (.aload_n 0, 1) := by decide +kernel
theorem dX10_init_45 : decode cX10_init 45 = .ok (.bipush 10, 2) := by decide +kernel
theorem dX10_init_47 : decode cX10_init 47 = .ok (.newarray .int, 2) := by decide +kernel
theorem dX10_init_49 : decode cX10_init 49 = .ok (.putfield 25, 3) := by decide +kernel
theorem dX10_init_52 : decode cX10_init 52 = .ok (.aload_n 0, 1) := by decide +kernel
theorem dX10_init_53 : decode cX10_init 53 = .ok (.bipush 10, 2) := by decide +kernel
theorem dX10_init_55 : decode cX10_init 55 = .ok (.newarray .int, 2) := by decide +kernel
theorem dX10_init_57 : decode cX10_init 57 = .ok (.putfield 28, 3) := by decide +kernel
theorem dX10_init_60 : decode cX10_init 60 = .ok (.aload_n 0, 1) := by decide +kernel
theorem dX10_init_61 : decode cX10_init 61 = .ok (.bipush 10, 2) := by decide +kernel
theorem dX10_init_63 : decode cX10_init 63 = .ok (.newarray .int, 2) := by decide +kernel
theorem dX10_init_65 : decode cX10_init 65 = .ok (.putfield 31, 3) := by decide +kernel
theorem dX10_init_68 : decode cX10_init 68 = .ok (.aload_n 0, 1) := by decide +kernel
theorem dX10_init_69 : decode cX10_init 69 = .ok (.bipush 10, 2) := by decide +kernel
theorem dX10_init_71 : decode cX10_init 71 = .ok (.newarray .int, 2) := by decide +kernel
theorem dX10_init_73 : decode cX10_init 73 = .ok (.putfield 34, 3) := by decide +kernel
theorem dX10_init_76 : decode cX10_init 76 = .ok (.aload_n 0, 1) := by decide +kernel
theorem dX10_init_77 : decode cX10_init 77 = .ok (.bipush 10, 2) := by decide +kernel
theorem dX10_init_79 : decode cX10_init 79 = .ok (.newarray .int, 2) := by decide +kernel
theorem dX10_init_81 : decode cX10_init 81 = .ok (.putfield 37, 3) := by decide +kernel
theorem dX10_init_84 : decode cX10_init 84 = .ok (.aload_n 0, 1) := by decide +kernel
theorem dX10_init_85 : decode cX10_init 85 = .ok (.bipush 100, 2) := by decide +kernel
theorem dX10_init_87 : decode cX10_init 87 = .ok (.newarray .boolean, 2) := by decide +kernel
theorem dX10_init_89 : decode cX10_init 89 = .ok (.putfield 40, 3) := by decide +kernel
theorem dX10_init_92 : decode cX10_init 92 = .ok (.aload_n 0, 1) := by decide +kernel
theorem dX10_init_93 : decode cX10_init 93 = .ok (.sipush 1000, 3) := by decide +kernel
theorem dX10_init_96 : decode cX10_init 96 = .ok (.newarray .int, 2) := by decide +kernel
theorem dX10_init_98 : decode cX10_init 98 = .ok (.putfield 44, 3) := by decide +kernel
theorem dX10_init_101 : decode cX10_init 101 = .ok (.aload_n 0, 1) := by decide +kernel
theorem dX10_init_102 : decode cX10_init 102 = .ok (.sipush 1000, 3) := by decide +kernel
theorem dX10_init_105 : decode cX10_init 105 = .ok (.newarray .boolean, 2) := by decide +kernel
theorem dX10_init_107 : decode cX10_init 107 = .ok (.putfield 47, 3) := by decide +kernel
theorem dX10_init_110 : decode cX10_init 110 = .ok (.aload_n 0, 1) := by decide +kernel
theorem dX10_init_111 : decode cX10_init 111 = .ok (.iconst 4, 1) := by decide +kernel
theorem dX10_init_112 : decode cX10_init 112 = .ok (.newarray .int, 2) := by decide +kernel
theorem dX10_init_114 : decode cX10_init 114 = .ok (.putfield 50, 3) := by decide +kernel
theorem dX10_init_117 : decode cX10_init 117 = .ok (.aload_n 0, 1) := by decide +kernel
theorem dX10_init_118 : decode cX10_init 118 = .ok (.iconst 4, 1) := by decide +kernel
theorem dX10_init_119 : decode cX10_init 119 = .ok (.newarray .int, 2) := by decide +kernel
theorem dX10_init_121 : decode cX10_init 121 = .ok (.putfield 53, 3) := by decide +kernel
theorem dX10_init_124 : decode cX10_init 124 = .ok (.aload_n 0, 1) := by decide +kernel
theorem dX10_init_125 : decode cX10_init 125 = .ok (.sipush 400, 3) := by decide +kernel
theorem dX10_init_128 : decode cX10_init 128 = .ok (.newarray .int, 2) := by decide +kernel
theorem dX10_init_130 : decode cX10_init 130 = .ok (.putfield 56, 3) := by decide +kernel
theorem dX10_init_133 : decode cX10_init 133 = .ok (.aload_n 0, 1) := by decide +kernel
theorem dX10_init_134 : decode cX10_init 134 = .ok (.bipush 100, 2) := by decide +kernel
theorem dX10_init_136 : decode cX10_init 136 = .ok (.newarray .int, 2) := by decide +kernel
theorem dX10_init_138 : decode cX10_init 138 = .ok (.putfield 59, 3) := by decide +kernel
theorem dX10_init_141 : decode cX10_init 141 = .ok (.iconst 0, 1) := by decide +kernel
theorem dX10_init_142 : decode cX10_init 142 = .ok (.istore_n 1, 1) := by decide +kernel
theorem dX10_init_143 : decode cX10_init 143 = .ok (.iload_n 1, 1) := by decide +kernel
theorem dX10_init_144 : decode cX10_init 144 = .ok (.iconst 4, 1) := by decide +kernel
theorem dX10_init_145 : decode cX10_init 145 = .ok (.if_icmp .ge 16, 3) := by decide +kernel
theorem dX10_init_148 : decode cX10_init 148 = .ok (.aload_n 0, 1) := by decide +kernel
theorem dX10_init_149 : decode cX10_init 149 = .ok (.getfield 50, 3) := by decide +kernel
theorem dX10_init_152 : decode cX10_init 152 = .ok (.iload_n 1, 1) := by decide +kernel
theorem dX10_init_153 : decode cX10_init 153 = .ok (.iconst (-1), 1) := by decide +kernel
theorem dX10_init_154 : decode cX10_init 154 = .ok (.iastore, 1) := by decide +kernel
theorem dX10_init_155 : decode cX10_init 155 = .ok (.iinc 1 1, 3) := by decide +kernel
theorem dX10_init_158 : decode cX10_init 158 = .ok (.goto (-15), 3) := by decide +kernel
theorem dX10_init_161 : decode cX10_init 161 = .ok (.return_, 1) := by decide +kernel
theorem dX10_in_0 : decode cX10_in 0 = .ok (.lload_n 0, 1) := by decide +kernel
theorem dX10_in_1 : decode cX10_in 1 = .ok (.lload_n 2, 1) := by decide +kernel
theorem dX10_in_2 : decode cX10_in 2 = .ok (.lcmp, 1) := by decide +kernel
theorem dX10_in_3 : decode cX10_in 3 = .ok (.ifCond .lt 14, 3) := by decide +kernel
theorem dX10_in_6 : decode cX10_in 6 = .ok (.lload_n 0, 1) := by decide +kernel
theorem dX10_in_7 : decode cX10_in 7 = .ok (.lload 4, 2) := by decide +kernel
theorem dX10_in_9 : decode cX10_in 9 = .ok (.lcmp, 1) := by decide +kernel
theorem dX10_in_10 : decode cX10_in 10 = .ok (.ifCond .gt 7, 3) := by decide +kernel
theorem dX10_in_13 : decode cX10_in 13 = .ok (.iconst 1, 1) := by decide +kernel
theorem dX10_in_14 : decode cX10_in 14 = .ok (.goto 4, 3) := by decide +kernel
theorem dX10_in_17 : decode cX10_in 17 = .ok (.iconst 0, 1) := by decide +kernel
theorem dX10_in_18 : decode cX10_in 18 = .ok (.ireturn, 1) := by decide +kernel
theorem dX10_nothing_0 : decode cX10_nothing 0 = .ok (.ldc2_w 62, 3) := by decide +kernel
theorem dX10_nothing_3 : decode cX10_nothing 3 = .ok (.lreturn, 1) := by decide +kernel
theorem dX10_lesser_0 : decode cX10_lesser 0 = .ok (.iload_n 0, 1) := by decide +kernel
theorem dX10_lesser_1 : decode cX10_lesser 1 = .ok (.iload_n 1, 1) := by decide +kernel
theorem dX10_lesser_2 : decode cX10_lesser 2 = .ok (.if_icmp .ge 7, 3) := by decide +kernel
theorem dX10_lesser_5 : decode cX10_lesser 5 = .ok (.iload_n 0, 1) := by decide +kernel
theorem dX10_lesser_6 : decode cX10_lesser 6 = .ok (.goto 4, 3) := by decide +kernel
theorem dX10_lesser_9 : decode cX10_lesser 9 = .ok (.iload_n 1, 1) := by decide +kernel
theorem dX10_lesser_10 : decode cX10_lesser 10 = .ok (.ireturn, 1) := by decide +kernel
theorem dX10_shared_0 : decode cX10_shared 0 = .ok (.lload_n 0, 1) := by decide +kernel
theorem dX10_shared_1 : decode cX10_shared 1 = .ok (.lstore 5, 2) := by decide +kernel
theorem dX10_shared_3 : decode cX10_shared 3 = .ok (.lload_n 2, 1) := by decide +kernel
theorem dX10_shared_4 : decode cX10_shared 4 = .ok (.lstore 7, 2) := by decide +kernel
theorem dX10_shared_6 : decode cX10_shared 6 = .ok (.lload 7, 2) := by decide +kernel
theorem dX10_shared_8 : decode cX10_shared 8 = .ok (.lconst 0, 1) := by decide +kernel
theorem dX10_shared_9 : decode cX10_shared 9 = .ok (.lcmp, 1) := by decide +kernel
theorem dX10_shared_10 : decode cX10_shared 10 = .ok (.ifCond .eq 21, 3) := by decide +kernel
theorem dX10_shared_13 : decode cX10_shared 13 = .ok (.lload 5, 2) := by decide +kernel
theorem dX10_shared_15 : decode cX10_shared 15 = .ok (.lload 7, 2) := by decide +kernel
theorem dX10_shared_17 : decode cX10_shared 17 = .ok (.lrem, 1) := by decide +kernel
theorem dX10_shared_18 : decode cX10_shared 18 = .ok (.lstore 9, 2) := by decide +kernel
theorem dX10_shared_20 : decode cX10_shared 20 = .ok (.lload 7, 2) := by decide +kernel
theorem dX10_shared_22 : decode cX10_shared 22 = .ok (.lstore 5, 2) := by decide +kernel
theorem dX10_shared_24 : decode cX10_shared 24 = .ok (.lload 9, 2) := by decide +kernel
theorem dX10_shared_26 : decode cX10_shared 26 = .ok (.lstore 7, 2) := by decide +kernel
theorem dX10_shared_28 : decode cX10_shared 28 = .ok (.goto (-22), 3) := by decide +kernel
theorem dX10_shared_31 : decode cX10_shared 31 = .ok (.iload 4, 2) := by decide +kernel
theorem dX10_shared_33 : decode cX10_shared 33 = .ok (.ifCond .ne 7, 3) := by decide +kernel
theorem dX10_shared_36 : decode cX10_shared 36 = .ok (.lload_n 0, 1) := by decide +kernel
theorem dX10_shared_37 : decode cX10_shared 37 = .ok (.goto 4, 3) := by decide +kernel
theorem dX10_shared_40 : decode cX10_shared 40 = .ok (.lload_n 2, 1) := by decide +kernel
theorem dX10_shared_41 : decode cX10_shared 41 = .ok (.lload 5, 2) := by decide +kernel
theorem dX10_shared_43 : decode cX10_shared 43 = .ok (.ldiv, 1) := by decide +kernel
theorem dX10_shared_44 : decode cX10_shared 44 = .ok (.lreturn, 1) := by decide +kernel
theorem dX10_refused_0 : decode cX10_refused 0 = .ok (.aload_n 0, 1) := by decide +kernel
theorem dX10_refused_1 : decode cX10_refused 1 = .ok (.iconst 0, 1) := by decide +kernel
theorem dX10_refused_2 : decode cX10_refused 2 = .ok (.putfield 64, 3) := by decide +kernel
theorem dX10_refused_5 : decode cX10_refused 5 = .ok (.iload_n 1, 1) := by decide +kernel
theorem dX10_refused_6 : decode cX10_refused 6 = .ok (.ireturn, 1) := by decide +kernel
theorem dX10_failed_0 : decode cX10_failed 0 = .ok (.aload_n 0, 1) := by decide +kernel
theorem dX10_failed_1 : decode cX10_failed 1 = .ok (.iload_n 1, 1) := by decide +kernel
theorem dX10_failed_2 : decode cX10_failed 2 = .ok (.putfield 64, 3) := by decide +kernel
theorem dX10_failed_5 : decode cX10_failed 5 = .ok (.bipush (-10), 2) := by decide +kernel
theorem dX10_failed_7 : decode cX10_failed 7 = .ok (.iload_n 1, 1) := by decide +kernel
theorem dX10_failed_8 : decode cX10_failed 8 = .ok (.isub, 1) := by decide +kernel
theorem dX10_failed_9 : decode cX10_failed 9 = .ok (.ireturn, 1) := by decide +kernel
theorem dX10_failedLong_0 : decode cX10_failedLong 0 = .ok (.aload_n 0, 1) := by decide +kernel
theorem dX10_failedLong_1 : decode cX10_failedLong 1 = .ok (.iload_n 1, 1) := by decide +kernel
theorem dX10_failedLong_2 : decode cX10_failedLong 2 = .ok (.putfield 64, 3) := by decide +kernel
theorem dX10_failedLong_5 : decode cX10_failedLong 5 = .ok (.invokestatic 68, 3) := by decide +kernel
theorem dX10_failedLong_8 : decode cX10_failedLong 8 = .ok (.lreturn, 1) := by decide +kernel
theorem dX10_barred_0 : decode cX10_barred 0 = .ok (.iload_n 1, 1) := by decide +kernel
theorem dX10_barred_1 : decode cX10_barred 1 = .ok (.invokestatic 72, 3) := by decide +kernel
theorem dX10_barred_4 : decode cX10_barred 4 = .ok (.ifCond .eq 9, 3) := by decide +kernel
theorem dX10_barred_7 : decode cX10_barred 7 = .ok (.aload_n 0, 1) := by decide +kernel
theorem dX10_barred_8 : decode cX10_barred 8 = .ok (.iconst (-1), 1) := by decide +kernel
theorem dX10_barred_9 : decode cX10_barred 9 = .ok (.invokevirtual 76, 3) := by decide +kernel
theorem dX10_barred_12 : decode cX10_barred 12 = .ok (.ireturn, 1) := by decide +kernel
theorem dX10_barred_13 : decode cX10_barred 13 = .ok (.iload_n 2, 1) := by decide +kernel
theorem dX10_barred_14 : decode cX10_barred 14 = .ok (.i2l, 1) := by decide +kernel
theorem dX10_barred_15 : decode cX10_barred 15 = .ok (.lconst 0, 1) := by decide +kernel
theorem dX10_barred_16 : decode cX10_barred 16 = .ok (.ldc2_w 80, 3) := by decide +kernel
theorem dX10_barred_19 : decode cX10_barred 19 = .ok (.invokestatic 82, 3) := by decide +kernel
theorem dX10_barred_22 : decode cX10_barred 22 = .ok (.ifCond .eq 8, 3) := by decide +kernel
theorem dX10_barred_25 : decode cX10_barred 25 = .ok (.iload 6, 2) := by decide +kernel
theorem dX10_barred_27 : decode cX10_barred 27 = .ok (.ifCond .ne 10, 3) := by decide +kernel
theorem dX10_barred_30 : decode cX10_barred 30 = .ok (.aload_n 0, 1) := by decide +kernel
theorem dX10_barred_31 : decode cX10_barred 31 = .ok (.bipush (-2), 2) := by decide +kernel
theorem dX10_barred_33 : decode cX10_barred 33 = .ok (.invokevirtual 76, 3) := by decide +kernel
theorem dX10_barred_36 : decode cX10_barred 36 = .ok (.ireturn, 1) := by decide +kernel
theorem dX10_barred_37 : decode cX10_barred 37 = .ok (.aload_n 0, 1) := by decide +kernel
theorem dX10_barred_38 : decode cX10_barred 38 = .ok (.getfield 50, 3) := by decide +kernel
theorem dX10_barred_41 : decode cX10_barred 41 = .ok (.iload_n 1, 1) := by decide +kernel
theorem dX10_barred_42 : decode cX10_barred 42 = .ok (.iaload, 1) := by decide +kernel
theorem dX10_barred_43 : decode cX10_barred 43 = .ok (.ifCond .lt 19, 3) := by decide +kernel
theorem dX10_barred_46 : decode cX10_barred 46 = .ok (.aload_n 0, 1) := by decide +kernel
theorem dX10_barred_47 : decode cX10_barred 47 = .ok (.getfield 53, 3) := by decide +kernel
theorem dX10_barred_50 : decode cX10_barred 50 = .ok (.iload_n 1, 1) := by decide +kernel
theorem dX10_barred_51 : decode cX10_barred 51 = .ok (.iaload, 1) := by decide +kernel
theorem dX10_barred_52 : decode cX10_barred 52 = .ok (.iload_n 2, 1) := by decide +kernel
theorem dX10_barred_53 : decode cX10_barred 53 = .ok (.if_icmp .eq 9, 3) := by decide +kernel
theorem dX10_barred_56 : decode cX10_barred 56 = .ok (.aload_n 0, 1) := by decide +kernel
theorem dX10_barred_57 : decode cX10_barred 57 = .ok (.iconst 2, 1) := by decide +kernel
theorem dX10_barred_58 : decode cX10_barred 58 = .ok (.invokevirtual 86, 3) := by decide +kernel
theorem dX10_barred_61 : decode cX10_barred 61 = .ok (.ireturn, 1) := by decide +kernel
theorem dX10_barred_62 : decode cX10_barred 62 = .ok (.aload_n 0, 1) := by decide +kernel
theorem dX10_barred_63 : decode cX10_barred 63 = .ok (.getfield 50, 3) := by decide +kernel
theorem dX10_barred_66 : decode cX10_barred 66 = .ok (.iload_n 1, 1) := by decide +kernel
theorem dX10_barred_67 : decode cX10_barred 67 = .ok (.iaload, 1) := by decide +kernel
theorem dX10_barred_68 : decode cX10_barred 68 = .ok (.ifCond .ge 9, 3) := by decide +kernel
theorem dX10_barred_71 : decode cX10_barred 71 = .ok (.aload_n 0, 1) := by decide +kernel
theorem dX10_barred_72 : decode cX10_barred 72 = .ok (.iconst 1, 1) := by decide +kernel
theorem dX10_barred_73 : decode cX10_barred 73 = .ok (.invokevirtual 86, 3) := by decide +kernel
theorem dX10_barred_76 : decode cX10_barred 76 = .ok (.ireturn, 1) := by decide +kernel
theorem dX10_barred_77 : decode cX10_barred 77 = .ok (.lload 4, 2) := by decide +kernel
theorem dX10_barred_79 : decode cX10_barred 79 = .ok (.lconst 0, 1) := by decide +kernel
theorem dX10_barred_80 : decode cX10_barred 80 = .ok (.lcmp, 1) := by decide +kernel
theorem dX10_barred_81 : decode cX10_barred 81 = .ok (.ifCond .ge 9, 3) := by decide +kernel
theorem dX10_barred_84 : decode cX10_barred 84 = .ok (.aload_n 0, 1) := by decide +kernel
theorem dX10_barred_85 : decode cX10_barred 85 = .ok (.iconst 4, 1) := by decide +kernel
theorem dX10_barred_86 : decode cX10_barred 86 = .ok (.invokevirtual 86, 3) := by decide +kernel
theorem dX10_barred_89 : decode cX10_barred 89 = .ok (.ireturn, 1) := by decide +kernel
theorem dX10_barred_90 : decode cX10_barred 90 = .ok (.iload_n 3, 1) := by decide +kernel
theorem dX10_barred_91 : decode cX10_barred 91 = .ok (.lload 4, 2) := by decide +kernel
theorem dX10_barred_93 : decode cX10_barred 93 = .ok (.aload_n 0, 1) := by decide +kernel
theorem dX10_barred_94 : decode cX10_barred 94 = .ok (.getfield 50, 3) := by decide +kernel
theorem dX10_barred_97 : decode cX10_barred 97 = .ok (.iload_n 1, 1) := by decide +kernel
theorem dX10_barred_98 : decode cX10_barred 98 = .ok (.iaload, 1) := by decide +kernel
theorem dX10_barred_99 : decode cX10_barred 99 = .ok (.invokestatic 89, 3) := by decide +kernel
theorem dX10_barred_102 : decode cX10_barred 102 = .ok (.ifCond .eq 11, 3) := by decide +kernel
theorem dX10_barred_105 : decode cX10_barred 105 = .ok (.aload_n 0, 1) := by decide +kernel
theorem dX10_barred_106 : decode cX10_barred 106 = .ok (.iconst 3, 1) := by decide +kernel
theorem dX10_barred_107 : decode cX10_barred 107 = .ok (.invokevirtual 86, 3) := by decide +kernel
theorem dX10_barred_110 : decode cX10_barred 110 = .ok (.goto 4, 3) := by decide +kernel
theorem dX10_barred_113 : decode cX10_barred 113 = .ok (.iconst 0, 1) := by decide +kernel
theorem dX10_barred_114 : decode cX10_barred 114 = .ok (.ireturn, 1) := by decide +kernel
theorem dX10_noOne_0 : decode cX10_noOne 0 = .ok (.iload_n 1, 1) := by decide +kernel
theorem dX10_noOne_1 : decode cX10_noOne 1 = .ok (.i2l, 1) := by decide +kernel
theorem dX10_noOne_2 : decode cX10_noOne 2 = .ok (.lconst 0, 1) := by decide +kernel
theorem dX10_noOne_3 : decode cX10_noOne 3 = .ok (.aload_n 0, 1) := by decide +kernel
theorem dX10_noOne_4 : decode cX10_noOne 4 = .ok (.getfield 93, 3) := by decide +kernel
theorem dX10_noOne_7 : decode cX10_noOne 7 = .ok (.i2l, 1) := by decide +kernel
theorem dX10_noOne_8 : decode cX10_noOne 8 = .ok (.lconst 1, 1) := by decide +kernel
theorem dX10_noOne_9 : decode cX10_noOne 9 = .ok (.lsub, 1) := by decide +kernel
theorem dX10_noOne_10 : decode cX10_noOne 10 = .ok (.invokestatic 82, 3) := by decide +kernel
theorem dX10_noOne_13 : decode cX10_noOne 13 = .ok (.ifCond .ne 7, 3) := by decide +kernel
theorem dX10_noOne_16 : decode cX10_noOne 16 = .ok (.iconst 1, 1) := by decide +kernel
theorem dX10_noOne_17 : decode cX10_noOne 17 = .ok (.goto 4, 3) := by decide +kernel
theorem dX10_noOne_20 : decode cX10_noOne 20 = .ok (.iconst 0, 1) := by decide +kernel
theorem dX10_noOne_21 : decode cX10_noOne 21 = .ok (.ireturn, 1) := by decide +kernel
theorem dX10_noVillage_0 : decode cX10_noVillage 0 = .ok (.iload_n 0, 1) := by decide +kernel
theorem dX10_noVillage_1 : decode cX10_noVillage 1 = .ok (.i2l, 1) := by decide +kernel
theorem dX10_noVillage_2 : decode cX10_noVillage 2 = .ok (.lconst 0, 1) := by decide +kernel
theorem dX10_noVillage_3 : decode cX10_noVillage 3 = .ok (.lconst 1, 1) := by decide +kernel
theorem dX10_noVillage_4 : decode cX10_noVillage 4 = .ok (.invokestatic 82, 3) := by decide +kernel
theorem dX10_noVillage_7 : decode cX10_noVillage 7 = .ok (.ifCond .ne 7, 3) := by decide +kernel
theorem dX10_noVillage_10 : decode cX10_noVillage 10 = .ok (.iconst 1, 1) := by decide +kernel
theorem dX10_noVillage_11 : decode cX10_noVillage 11 = .ok (.goto 4, 3) := by decide +kernel
theorem dX10_noVillage_14 : decode cX10_noVillage 14 = .ok (.iconst 0, 1) := by decide +kernel
theorem dX10_noVillage_15 : decode cX10_noVillage 15 = .ok (.ireturn, 1) := by decide +kernel
theorem dX10_isDay_0 : decode cX10_isDay 0 = .ok (.iload_n 0, 1) := by decide +kernel
theorem dX10_isDay_1 : decode cX10_isDay 1 = .ok (.i2l, 1) := by decide +kernel
theorem dX10_isDay_2 : decode cX10_isDay 2 = .ok (.lconst 0, 1) := by decide +kernel
theorem dX10_isDay_3 : decode cX10_isDay 3 = .ok (.ldc2_w 96, 3) := by decide +kernel
theorem dX10_isDay_6 : decode cX10_isDay 6 = .ok (.invokestatic 82, 3) := by decide +kernel
theorem dX10_isDay_9 : decode cX10_isDay 9 = .ok (.ireturn, 1) := by decide +kernel
theorem dX10_isFew_0 : decode cX10_isFew 0 = .ok (.iload_n 0, 1) := by decide +kernel
theorem dX10_isFew_1 : decode cX10_isFew 1 = .ok (.i2l, 1) := by decide +kernel
theorem dX10_isFew_2 : decode cX10_isFew 2 = .ok (.lconst 1, 1) := by decide +kernel
theorem dX10_isFew_3 : decode cX10_isFew 3 = .ok (.ldc2_w 98, 3) := by decide +kernel
theorem dX10_isFew_6 : decode cX10_isFew 6 = .ok (.invokestatic 82, 3) := by decide +kernel
theorem dX10_isFew_9 : decode cX10_isFew 9 = .ok (.ireturn, 1) := by decide +kernel
theorem dX10_figureAt_0 : decode cX10_figureAt 0 = .ok (.iload_n 3, 1) := by decide +kernel
theorem dX10_figureAt_1 : decode cX10_figureAt 1 = .ok (.iload_n 2, 1) := by decide +kernel
theorem dX10_figureAt_2 : decode cX10_figureAt 2 = .ok (.if_icmp .ge 17, 3) := by decide +kernel
theorem dX10_figureAt_5 : decode cX10_figureAt 5 = .ok (.aload_n 0, 1) := by decide +kernel
theorem dX10_figureAt_6 : decode cX10_figureAt 6 = .ok (.getfield 56, 3) := by decide +kernel
theorem dX10_figureAt_9 : decode cX10_figureAt 9 = .ok (.iload_n 1, 1) := by decide +kernel
theorem dX10_figureAt_10 : decode cX10_figureAt 10 = .ok (.iload_n 3, 1) := by decide +kernel
theorem dX10_figureAt_11 : decode cX10_figureAt 11 = .ok (.iadd, 1) := by decide +kernel
theorem dX10_figureAt_12 : decode cX10_figureAt 12 = .ok (.iaload, 1) := by decide +kernel
theorem dX10_figureAt_13 : decode cX10_figureAt 13 = .ok (.bipush 48, 2) := by decide +kernel
theorem dX10_figureAt_15 : decode cX10_figureAt 15 = .ok (.isub, 1) := by decide +kernel
theorem dX10_figureAt_16 : decode cX10_figureAt 16 = .ok (.goto 5, 3) := by decide +kernel
theorem dX10_figureAt_19 : decode cX10_figureAt 19 = .ok (.bipush (-9), 2) := by decide +kernel
theorem dX10_figureAt_21 : decode cX10_figureAt 21 = .ok (.istore 4, 2) := by decide +kernel
theorem dX10_figureAt_23 : decode cX10_figureAt 23 = .ok (.iload 4, 2) := by decide +kernel
theorem dX10_figureAt_25 : decode cX10_figureAt 25 = .ok (.i2l, 1) := by decide +kernel
theorem dX10_figureAt_26 : decode cX10_figureAt 26 = .ok (.lconst 0, 1) := by decide +kernel
theorem dX10_figureAt_27 : decode cX10_figureAt 27 = .ok (.ldc2_w 98, 3) := by decide +kernel
theorem dX10_figureAt_30 : decode cX10_figureAt 30 = .ok (.invokestatic 82, 3) := by decide +kernel
theorem dX10_figureAt_33 : decode cX10_figureAt 33 = .ok (.ifCond .eq 8, 3) := by decide +kernel
theorem dX10_figureAt_36 : decode cX10_figureAt 36 = .ok (.iload 4, 2) := by decide +kernel
theorem dX10_figureAt_38 : decode cX10_figureAt 38 = .ok (.goto 5, 3) := by decide +kernel
theorem dX10_figureAt_41 : decode cX10_figureAt 41 = .ok (.bipush (-9), 2) := by decide +kernel
theorem dX10_figureAt_43 : decode cX10_figureAt 43 = .ok (.ireturn, 1) := by decide +kernel
theorem dX10_two_0 : decode cX10_two 0 = .ok (.aload_n 0, 1) := by decide +kernel
theorem dX10_two_1 : decode cX10_two 1 = .ok (.iload_n 1, 1) := by decide +kernel
theorem dX10_two_2 : decode cX10_two 2 = .ok (.iload_n 2, 1) := by decide +kernel
theorem dX10_two_3 : decode cX10_two 3 = .ok (.aload_n 0, 1) := by decide +kernel
theorem dX10_two_4 : decode cX10_two 4 = .ok (.getfield 100, 3) := by decide +kernel
theorem dX10_two_7 : decode cX10_two 7 = .ok (.invokevirtual 103, 3) := by decide +kernel
theorem dX10_two_10 : decode cX10_two 10 = .ok (.istore 5, 2) := by decide +kernel
theorem dX10_two_12 : decode cX10_two 12 = .ok (.iload 5, 2) := by decide +kernel
theorem dX10_two_14 : decode cX10_two 14 = .ok (.ifCond .lt 25, 3) := by decide +kernel
theorem dX10_two_17 : decode cX10_two 17 = .ok (.bipush 10, 2) := by decide +kernel
theorem dX10_two_19 : decode cX10_two 19 = .ok (.iload 5, 2) := by decide +kernel
theorem dX10_two_21 : decode cX10_two 21 = .ok (.imul, 1) := by decide +kernel
theorem dX10_two_22 : decode cX10_two 22 = .ok (.iload 4, 2) := by decide +kernel
theorem dX10_two_24 : decode cX10_two 24 = .ok (.if_icmp .gt 15, 3) := by decide +kernel
theorem dX10_two_27 : decode cX10_two 27 = .ok (.bipush 10, 2) := by decide +kernel
theorem dX10_two_29 : decode cX10_two 29 = .ok (.iload 5, 2) := by decide +kernel
theorem dX10_two_31 : decode cX10_two 31 = .ok (.imul, 1) := by decide +kernel
theorem dX10_two_32 : decode cX10_two 32 = .ok (.bipush 9, 2) := by decide +kernel
theorem dX10_two_34 : decode cX10_two 34 = .ok (.iadd, 1) := by decide +kernel
theorem dX10_two_35 : decode cX10_two 35 = .ok (.iload_n 3, 1) := by decide +kernel
theorem dX10_two_36 : decode cX10_two 36 = .ok (.if_icmp .ge 6, 3) := by decide +kernel
theorem dX10_two_39 : decode cX10_two 39 = .ok (.bipush (-9), 2) := by decide +kernel
theorem dX10_two_41 : decode cX10_two 41 = .ok (.ireturn, 1) := by decide +kernel
theorem dX10_two_42 : decode cX10_two 42 = .ok (.aload_n 0, 1) := by decide +kernel
theorem dX10_two_43 : decode cX10_two 43 = .ok (.iload_n 1, 1) := by decide +kernel
theorem dX10_two_44 : decode cX10_two 44 = .ok (.iload_n 2, 1) := by decide +kernel
theorem dX10_two_45 : decode cX10_two 45 = .ok (.aload_n 0, 1) := by decide +kernel
theorem dX10_two_46 : decode cX10_two 46 = .ok (.getfield 100, 3) := by decide +kernel
theorem dX10_two_49 : decode cX10_two 49 = .ok (.iconst 1, 1) := by decide +kernel
theorem dX10_two_50 : decode cX10_two 50 = .ok (.iadd, 1) := by decide +kernel
theorem dX10_two_51 : decode cX10_two 51 = .ok (.invokevirtual 103, 3) := by decide +kernel
theorem dX10_two_54 : decode cX10_two 54 = .ok (.istore 6, 2) := by decide +kernel
theorem dX10_two_56 : decode cX10_two 56 = .ok (.iload 6, 2) := by decide +kernel
theorem dX10_two_58 : decode cX10_two 58 = .ok (.ifCond .ge 16, 3) := by decide +kernel
theorem dX10_two_61 : decode cX10_two 61 = .ok (.aload_n 0, 1) := by decide +kernel
theorem dX10_two_62 : decode cX10_two 62 = .ok (.dup, 1) := by decide +kernel
theorem dX10_two_63 : decode cX10_two 63 = .ok (.getfield 100, 3) := by decide +kernel
theorem dX10_two_66 : decode cX10_two 66 = .ok (.iconst 1, 1) := by decide +kernel
theorem dX10_two_67 : decode cX10_two 67 = .ok (.iadd, 1) := by decide +kernel
theorem dX10_two_68 : decode cX10_two 68 = .ok (.putfield 100, 3) := by decide +kernel
theorem dX10_two_71 : decode cX10_two 71 = .ok (.bipush (-9), 2) := by decide +kernel
theorem dX10_two_73 : decode cX10_two 73 = .ok (.ireturn, 1) := by decide +kernel
theorem dX10_two_74 : decode cX10_two 74 = .ok (.ldc2_w 107, 3) := by decide +kernel
theorem dX10_two_77 : decode cX10_two 77 = .ok (.iload 5, 2) := by decide +kernel
theorem dX10_two_79 : decode cX10_two 79 = .ok (.i2l, 1) := by decide +kernel
theorem dX10_two_80 : decode cX10_two 80 = .ok (.lmul, 1) := by decide +kernel
theorem dX10_two_81 : decode cX10_two 81 = .ok (.iload 6, 2) := by decide +kernel
theorem dX10_two_83 : decode cX10_two 83 = .ok (.i2l, 1) := by decide +kernel
theorem dX10_two_84 : decode cX10_two 84 = .ok (.ladd, 1) := by decide +kernel
theorem dX10_two_85 : decode cX10_two 85 = .ok (.iload_n 3, 1) := by decide +kernel
theorem dX10_two_86 : decode cX10_two 86 = .ok (.i2l, 1) := by decide +kernel
theorem dX10_two_87 : decode cX10_two 87 = .ok (.iload 4, 2) := by decide +kernel
theorem dX10_two_89 : decode cX10_two 89 = .ok (.i2l, 1) := by decide +kernel
theorem dX10_two_90 : decode cX10_two 90 = .ok (.invokestatic 82, 3) := by decide +kernel
theorem dX10_two_93 : decode cX10_two 93 = .ok (.istore 7, 2) := by decide +kernel
theorem dX10_two_95 : decode cX10_two 95 = .ok (.aload_n 0, 1) := by decide +kernel
theorem dX10_two_96 : decode cX10_two 96 = .ok (.dup, 1) := by decide +kernel
theorem dX10_two_97 : decode cX10_two 97 = .ok (.getfield 100, 3) := by decide +kernel
theorem dX10_two_100 : decode cX10_two 100 = .ok (.iload 7, 2) := by decide +kernel
theorem dX10_two_102 : decode cX10_two 102 = .ok (.ifCond .eq 7, 3) := by decide +kernel
theorem dX10_two_105 : decode cX10_two 105 = .ok (.iconst 2, 1) := by decide +kernel
theorem dX10_two_106 : decode cX10_two 106 = .ok (.goto 4, 3) := by decide +kernel
theorem dX10_two_109 : decode cX10_two 109 = .ok (.iconst 0, 1) := by decide +kernel
theorem dX10_two_110 : decode cX10_two 110 = .ok (.iadd, 1) := by decide +kernel
theorem dX10_two_111 : decode cX10_two 111 = .ok (.putfield 100, 3) := by decide +kernel
theorem dX10_two_114 : decode cX10_two 114 = .ok (.iload 7, 2) := by decide +kernel
theorem dX10_two_116 : decode cX10_two 116 = .ok (.ifCond .eq 14, 3) := by decide +kernel
theorem dX10_two_119 : decode cX10_two 119 = .ok (.bipush 10, 2) := by decide +kernel
theorem dX10_two_121 : decode cX10_two 121 = .ok (.iload 5, 2) := by decide +kernel
theorem dX10_two_123 : decode cX10_two 123 = .ok (.imul, 1) := by decide +kernel
theorem dX10_two_124 : decode cX10_two 124 = .ok (.iload 6, 2) := by decide +kernel
theorem dX10_two_126 : decode cX10_two 126 = .ok (.iadd, 1) := by decide +kernel
theorem dX10_two_127 : decode cX10_two 127 = .ok (.goto 5, 3) := by decide +kernel
theorem dX10_two_130 : decode cX10_two 130 = .ok (.bipush (-9), 2) := by decide +kernel
theorem dX10_two_132 : decode cX10_two 132 = .ok (.ireturn, 1) := by decide +kernel
theorem dX10_readsOne_0 : decode cX10_readsOne 0 = .ok (.aload_n 0, 1) := by decide +kernel
theorem dX10_readsOne_1 : decode cX10_readsOne 1 = .ok (.getfield 109, 3) := by decide +kernel
theorem dX10_readsOne_4 : decode cX10_readsOne 4 = .ok (.ifCond .le 48, 3) := by decide +kernel
theorem dX10_readsOne_7 : decode cX10_readsOne 7 = .ok (.aload_n 0, 1) := by decide +kernel
theorem dX10_readsOne_8 : decode cX10_readsOne 8 = .ok (.getfield 109, 3) := by decide +kernel
theorem dX10_readsOne_11 : decode cX10_readsOne 11 = .ok (.bipush 10, 2) := by decide +kernel
theorem dX10_readsOne_13 : decode cX10_readsOne 13 = .ok (.if_icmp .eq 27, 3) := by decide +kernel
theorem dX10_readsOne_16 : decode cX10_readsOne 16 = .ok (.aload_n 0, 1) := by decide +kernel
theorem dX10_readsOne_17 : decode cX10_readsOne 17 = .ok (.getfield 100, 3) := by decide +kernel
theorem dX10_readsOne_20 : decode cX10_readsOne 20 = .ok (.iload_n 2, 1) := by decide +kernel
theorem dX10_readsOne_21 : decode cX10_readsOne 21 = .ok (.if_icmp .ge 19, 3) := by decide +kernel
theorem dX10_readsOne_24 : decode cX10_readsOne 24 = .ok (.aload_n 0, 1) := by decide +kernel
theorem dX10_readsOne_25 : decode cX10_readsOne 25 = .ok (.getfield 56, 3) := by decide +kernel
theorem dX10_readsOne_28 : decode cX10_readsOne 28 = .ok (.iload_n 1, 1) := by decide +kernel
theorem dX10_readsOne_29 : decode cX10_readsOne 29 = .ok (.aload_n 0, 1) := by decide +kernel
theorem dX10_readsOne_30 : decode cX10_readsOne 30 = .ok (.getfield 100, 3) := by decide +kernel
theorem dX10_readsOne_33 : decode cX10_readsOne 33 = .ok (.iadd, 1) := by decide +kernel
theorem dX10_readsOne_34 : decode cX10_readsOne 34 = .ok (.iaload, 1) := by decide +kernel
theorem dX10_readsOne_35 : decode cX10_readsOne 35 = .ok (.bipush 59, 2) := by decide +kernel
theorem dX10_readsOne_37 : decode cX10_readsOne 37 = .ok (.if_icmp .eq 5, 3) := by decide +kernel
theorem dX10_readsOne_40 : decode cX10_readsOne 40 = .ok (.iconst 0, 1) := by decide +kernel
theorem dX10_readsOne_41 : decode cX10_readsOne 41 = .ok (.ireturn, 1) := by decide +kernel
theorem dX10_readsOne_42 : decode cX10_readsOne 42 = .ok (.aload_n 0, 1) := by decide +kernel
theorem dX10_readsOne_43 : decode cX10_readsOne 43 = .ok (.dup, 1) := by decide +kernel
theorem dX10_readsOne_44 : decode cX10_readsOne 44 = .ok (.getfield 100, 3) := by decide +kernel
theorem dX10_readsOne_47 : decode cX10_readsOne 47 = .ok (.iconst 1, 1) := by decide +kernel
theorem dX10_readsOne_48 : decode cX10_readsOne 48 = .ok (.iadd, 1) := by decide +kernel
theorem dX10_readsOne_49 : decode cX10_readsOne 49 = .ok (.putfield 100, 3) := by decide +kernel
theorem dX10_readsOne_52 : decode cX10_readsOne 52 = .ok (.aload_n 0, 1) := by decide +kernel
theorem dX10_readsOne_53 : decode cX10_readsOne 53 = .ok (.getfield 100, 3) := by decide +kernel
theorem dX10_readsOne_56 : decode cX10_readsOne 56 = .ok (.iload_n 2, 1) := by decide +kernel
theorem dX10_readsOne_57 : decode cX10_readsOne 57 = .ok (.if_icmp .ge 17, 3) := by decide +kernel
theorem dX10_readsOne_60 : decode cX10_readsOne 60 = .ok (.aload_n 0, 1) := by decide +kernel
theorem dX10_readsOne_61 : decode cX10_readsOne 61 = .ok (.getfield 56, 3) := by decide +kernel
theorem dX10_readsOne_64 : decode cX10_readsOne 64 = .ok (.iload_n 1, 1) := by decide +kernel
theorem dX10_readsOne_65 : decode cX10_readsOne 65 = .ok (.aload_n 0, 1) := by decide +kernel
theorem dX10_readsOne_66 : decode cX10_readsOne 66 = .ok (.getfield 100, 3) := by decide +kernel
theorem dX10_readsOne_69 : decode cX10_readsOne 69 = .ok (.iadd, 1) := by decide +kernel
theorem dX10_readsOne_70 : decode cX10_readsOne 70 = .ok (.iaload, 1) := by decide +kernel
theorem dX10_readsOne_71 : decode cX10_readsOne 71 = .ok (.goto 5, 3) := by decide +kernel
theorem dX10_readsOne_74 : decode cX10_readsOne 74 = .ok (.bipush (-9), 2) := by decide +kernel
theorem dX10_readsOne_76 : decode cX10_readsOne 76 = .ok (.istore_n 3, 1) := by decide +kernel
theorem dX10_readsOne_77 : decode cX10_readsOne 77 = .ok (.iload_n 3, 1) := by decide +kernel
theorem dX10_readsOne_78 : decode cX10_readsOne 78 = .ok (.bipush 110, 2) := by decide +kernel
theorem dX10_readsOne_80 : decode cX10_readsOne 80 = .ok (.if_icmp .eq 17, 3) := by decide +kernel
theorem dX10_readsOne_83 : decode cX10_readsOne 83 = .ok (.iload_n 3, 1) := by decide +kernel
theorem dX10_readsOne_84 : decode cX10_readsOne 84 = .ok (.bipush 108, 2) := by decide +kernel
theorem dX10_readsOne_86 : decode cX10_readsOne 86 = .ok (.if_icmp .eq 11, 3) := by decide +kernel
theorem dX10_readsOne_89 : decode cX10_readsOne 89 = .ok (.iload_n 3, 1) := by decide +kernel
theorem dX10_readsOne_90 : decode cX10_readsOne 90 = .ok (.bipush 102, 2) := by decide +kernel
theorem dX10_readsOne_92 : decode cX10_readsOne 92 = .ok (.if_icmp .eq 5, 3) := by decide +kernel
theorem dX10_readsOne_95 : decode cX10_readsOne 95 = .ok (.iconst 0, 1) := by decide +kernel
theorem dX10_readsOne_96 : decode cX10_readsOne 96 = .ok (.ireturn, 1) := by decide +kernel
theorem dX10_readsOne_97 : decode cX10_readsOne 97 = .ok (.aload_n 0, 1) := by decide +kernel
theorem dX10_readsOne_98 : decode cX10_readsOne 98 = .ok (.dup, 1) := by decide +kernel
theorem dX10_readsOne_99 : decode cX10_readsOne 99 = .ok (.getfield 100, 3) := by decide +kernel
theorem dX10_readsOne_102 : decode cX10_readsOne 102 = .ok (.iconst 1, 1) := by decide +kernel
theorem dX10_readsOne_103 : decode cX10_readsOne 103 = .ok (.iadd, 1) := by decide +kernel
theorem dX10_readsOne_104 : decode cX10_readsOne 104 = .ok (.putfield 100, 3) := by decide +kernel
theorem dX10_readsOne_107 : decode cX10_readsOne 107 = .ok (.aload_n 0, 1) := by decide +kernel
theorem dX10_readsOne_108 : decode cX10_readsOne 108 = .ok (.getfield 109, 3) := by decide +kernel
theorem dX10_readsOne_111 : decode cX10_readsOne 111 = .ok (.istore 4, 2) := by decide +kernel
theorem dX10_readsOne_113 : decode cX10_readsOne 113 = .ok (.aload_n 0, 1) := by decide +kernel
theorem dX10_readsOne_114 : decode cX10_readsOne 114 = .ok (.getfield 25, 3) := by decide +kernel
theorem dX10_readsOne_117 : decode cX10_readsOne 117 = .ok (.iload 4, 2) := by decide +kernel
theorem dX10_readsOne_119 : decode cX10_readsOne 119 = .ok (.iload_n 3, 1) := by decide +kernel
theorem dX10_readsOne_120 : decode cX10_readsOne 120 = .ok (.bipush 110, 2) := by decide +kernel
theorem dX10_readsOne_122 : decode cX10_readsOne 122 = .ok (.if_icmp .ne 7, 3) := by decide +kernel
theorem dX10_readsOne_125 : decode cX10_readsOne 125 = .ok (.iconst 0, 1) := by decide +kernel
theorem dX10_readsOne_126 : decode cX10_readsOne 126 = .ok (.goto 14, 3) := by decide +kernel
theorem dX10_readsOne_129 : decode cX10_readsOne 129 = .ok (.iload_n 3, 1) := by decide +kernel
theorem dX10_readsOne_130 : decode cX10_readsOne 130 = .ok (.bipush 108, 2) := by decide +kernel
theorem dX10_readsOne_132 : decode cX10_readsOne 132 = .ok (.if_icmp .ne 7, 3) := by decide +kernel
theorem dX10_readsOne_135 : decode cX10_readsOne 135 = .ok (.iconst 1, 1) := by decide +kernel
theorem dX10_readsOne_136 : decode cX10_readsOne 136 = .ok (.goto 4, 3) := by decide +kernel
theorem dX10_readsOne_139 : decode cX10_readsOne 139 = .ok (.iconst 2, 1) := by decide +kernel
theorem dX10_readsOne_140 : decode cX10_readsOne 140 = .ok (.iastore, 1) := by decide +kernel
theorem dX10_readsOne_141 : decode cX10_readsOne 141 = .ok (.aload_n 0, 1) := by decide +kernel
theorem dX10_readsOne_142 : decode cX10_readsOne 142 = .ok (.getfield 28, 3) := by decide +kernel
theorem dX10_readsOne_145 : decode cX10_readsOne 145 = .ok (.iload 4, 2) := by decide +kernel
theorem dX10_readsOne_147 : decode cX10_readsOne 147 = .ok (.aload_n 0, 1) := by decide +kernel
theorem dX10_readsOne_148 : decode cX10_readsOne 148 = .ok (.iload_n 1, 1) := by decide +kernel
theorem dX10_readsOne_149 : decode cX10_readsOne 149 = .ok (.iload_n 2, 1) := by decide +kernel
theorem dX10_readsOne_150 : decode cX10_readsOne 150 = .ok (.aload_n 0, 1) := by decide +kernel
theorem dX10_readsOne_151 : decode cX10_readsOne 151 = .ok (.getfield 100, 3) := by decide +kernel
theorem dX10_readsOne_154 : decode cX10_readsOne 154 = .ok (.invokevirtual 103, 3) := by decide +kernel
theorem dX10_readsOne_157 : decode cX10_readsOne 157 = .ok (.iastore, 1) := by decide +kernel
theorem dX10_readsOne_158 : decode cX10_readsOne 158 = .ok (.aload_n 0, 1) := by decide +kernel
theorem dX10_readsOne_159 : decode cX10_readsOne 159 = .ok (.getfield 28, 3) := by decide +kernel
theorem dX10_readsOne_162 : decode cX10_readsOne 162 = .ok (.iload 4, 2) := by decide +kernel
theorem dX10_readsOne_164 : decode cX10_readsOne 164 = .ok (.iaload, 1) := by decide +kernel
theorem dX10_readsOne_165 : decode cX10_readsOne 165 = .ok (.i2l, 1) := by decide +kernel
theorem dX10_readsOne_166 : decode cX10_readsOne 166 = .ok (.lconst 0, 1) := by decide +kernel
theorem dX10_readsOne_167 : decode cX10_readsOne 167 = .ok (.lconst 1, 1) := by decide +kernel
theorem dX10_readsOne_168 : decode cX10_readsOne 168 = .ok (.invokestatic 82, 3) := by decide +kernel
theorem dX10_readsOne_171 : decode cX10_readsOne 171 = .ok (.ifCond .ne 5, 3) := by decide +kernel
theorem dX10_readsOne_174 : decode cX10_readsOne 174 = .ok (.iconst 0, 1) := by decide +kernel
theorem dX10_readsOne_175 : decode cX10_readsOne 175 = .ok (.ireturn, 1) := by decide +kernel
theorem dX10_readsOne_176 : decode cX10_readsOne 176 = .ok (.aload_n 0, 1) := by decide +kernel
theorem dX10_readsOne_177 : decode cX10_readsOne 177 = .ok (.dup, 1) := by decide +kernel
theorem dX10_readsOne_178 : decode cX10_readsOne 178 = .ok (.getfield 100, 3) := by decide +kernel
theorem dX10_readsOne_181 : decode cX10_readsOne 181 = .ok (.iconst 1, 1) := by decide +kernel
theorem dX10_readsOne_182 : decode cX10_readsOne 182 = .ok (.iadd, 1) := by decide +kernel
theorem dX10_readsOne_183 : decode cX10_readsOne 183 = .ok (.putfield 100, 3) := by decide +kernel
theorem dX10_readsOne_186 : decode cX10_readsOne 186 = .ok (.aload_n 0, 1) := by decide +kernel
theorem dX10_readsOne_187 : decode cX10_readsOne 187 = .ok (.getfield 31, 3) := by decide +kernel
theorem dX10_readsOne_190 : decode cX10_readsOne 190 = .ok (.iload 4, 2) := by decide +kernel
theorem dX10_readsOne_192 : decode cX10_readsOne 192 = .ok (.aload_n 0, 1) := by decide +kernel
theorem dX10_readsOne_193 : decode cX10_readsOne 193 = .ok (.iload_n 1, 1) := by decide +kernel
theorem dX10_readsOne_194 : decode cX10_readsOne 194 = .ok (.iload_n 2, 1) := by decide +kernel
theorem dX10_readsOne_195 : decode cX10_readsOne 195 = .ok (.iconst 1, 1) := by decide +kernel
theorem dX10_readsOne_196 : decode cX10_readsOne 196 = .ok (.bipush 99, 2) := by decide +kernel
theorem dX10_readsOne_198 : decode cX10_readsOne 198 = .ok (.invokevirtual 112, 3) := by decide +kernel
theorem dX10_readsOne_201 : decode cX10_readsOne 201 = .ok (.iastore, 1) := by decide +kernel
theorem dX10_readsOne_202 : decode cX10_readsOne 202 = .ok (.aload_n 0, 1) := by decide +kernel
theorem dX10_readsOne_203 : decode cX10_readsOne 203 = .ok (.getfield 34, 3) := by decide +kernel
theorem dX10_readsOne_206 : decode cX10_readsOne 206 = .ok (.iload 4, 2) := by decide +kernel
theorem dX10_readsOne_208 : decode cX10_readsOne 208 = .ok (.aload_n 0, 1) := by decide +kernel
theorem dX10_readsOne_209 : decode cX10_readsOne 209 = .ok (.getfield 31, 3) := by decide +kernel
theorem dX10_readsOne_212 : decode cX10_readsOne 212 = .ok (.iload 4, 2) := by decide +kernel
theorem dX10_readsOne_214 : decode cX10_readsOne 214 = .ok (.iaload, 1) := by decide +kernel
theorem dX10_readsOne_215 : decode cX10_readsOne 215 = .ok (.ifCond .ge 8, 3) := by decide +kernel
theorem dX10_readsOne_218 : decode cX10_readsOne 218 = .ok (.bipush (-9), 2) := by decide +kernel
theorem dX10_readsOne_220 : decode cX10_readsOne 220 = .ok (.goto 12, 3) := by decide +kernel
theorem dX10_readsOne_223 : decode cX10_readsOne 223 = .ok (.aload_n 0, 1) := by decide +kernel
theorem dX10_readsOne_224 : decode cX10_readsOne 224 = .ok (.iload_n 1, 1) := by decide +kernel
theorem dX10_readsOne_225 : decode cX10_readsOne 225 = .ok (.iload_n 2, 1) := by decide +kernel
theorem dX10_readsOne_226 : decode cX10_readsOne 226 = .ok (.iconst 0, 1) := by decide +kernel
theorem dX10_readsOne_227 : decode cX10_readsOne 227 = .ok (.bipush 98, 2) := by decide +kernel
theorem dX10_readsOne_229 : decode cX10_readsOne 229 = .ok (.invokevirtual 112, 3) := by decide +kernel
theorem dX10_readsOne_232 : decode cX10_readsOne 232 = .ok (.iastore, 1) := by decide +kernel
theorem dX10_readsOne_233 : decode cX10_readsOne 233 = .ok (.aload_n 0, 1) := by decide +kernel
theorem dX10_readsOne_234 : decode cX10_readsOne 234 = .ok (.getfield 37, 3) := by decide +kernel
theorem dX10_readsOne_237 : decode cX10_readsOne 237 = .ok (.iload 4, 2) := by decide +kernel
theorem dX10_readsOne_239 : decode cX10_readsOne 239 = .ok (.aload_n 0, 1) := by decide +kernel
theorem dX10_readsOne_240 : decode cX10_readsOne 240 = .ok (.getfield 34, 3) := by decide +kernel
theorem dX10_readsOne_243 : decode cX10_readsOne 243 = .ok (.iload 4, 2) := by decide +kernel
theorem dX10_readsOne_245 : decode cX10_readsOne 245 = .ok (.iaload, 1) := by decide +kernel
theorem dX10_readsOne_246 : decode cX10_readsOne 246 = .ok (.ifCond .ge 8, 3) := by decide +kernel
theorem dX10_readsOne_249 : decode cX10_readsOne 249 = .ok (.bipush (-9), 2) := by decide +kernel
theorem dX10_readsOne_251 : decode cX10_readsOne 251 = .ok (.goto 20, 3) := by decide +kernel
theorem dX10_readsOne_254 : decode cX10_readsOne 254 = .ok (.aload_n 0, 1) := by decide +kernel
theorem dX10_readsOne_255 : decode cX10_readsOne 255 = .ok (.iload_n 1, 1) := by decide +kernel
theorem dX10_readsOne_256 : decode cX10_readsOne 256 = .ok (.iload_n 2, 1) := by decide +kernel
theorem dX10_readsOne_257 : decode cX10_readsOne 257 = .ok (.aload_n 0, 1) := by decide +kernel
theorem dX10_readsOne_258 : decode cX10_readsOne 258 = .ok (.getfield 34, 3) := by decide +kernel
theorem dX10_readsOne_261 : decode cX10_readsOne 261 = .ok (.iload 4, 2) := by decide +kernel
theorem dX10_readsOne_263 : decode cX10_readsOne 263 = .ok (.iaload, 1) := by decide +kernel
theorem dX10_readsOne_264 : decode cX10_readsOne 264 = .ok (.iconst 1, 1) := by decide +kernel
theorem dX10_readsOne_265 : decode cX10_readsOne 265 = .ok (.iadd, 1) := by decide +kernel
theorem dX10_readsOne_266 : decode cX10_readsOne 266 = .ok (.bipush 99, 2) := by decide +kernel
theorem dX10_readsOne_268 : decode cX10_readsOne 268 = .ok (.invokevirtual 112, 3) := by decide +kernel
theorem dX10_readsOne_271 : decode cX10_readsOne 271 = .ok (.iastore, 1) := by decide +kernel
theorem dX10_readsOne_272 : decode cX10_readsOne 272 = .ok (.aload_n 0, 1) := by decide +kernel
theorem dX10_readsOne_273 : decode cX10_readsOne 273 = .ok (.dup, 1) := by decide +kernel
theorem dX10_readsOne_274 : decode cX10_readsOne 274 = .ok (.getfield 109, 3) := by decide +kernel
theorem dX10_readsOne_277 : decode cX10_readsOne 277 = .ok (.iconst 1, 1) := by decide +kernel
theorem dX10_readsOne_278 : decode cX10_readsOne 278 = .ok (.iadd, 1) := by decide +kernel
theorem dX10_readsOne_279 : decode cX10_readsOne 279 = .ok (.putfield 109, 3) := by decide +kernel
theorem dX10_readsOne_282 : decode cX10_readsOne 282 = .ok (.aload_n 0, 1) := by decide +kernel
theorem dX10_readsOne_283 : decode cX10_readsOne 283 = .ok (.getfield 37, 3) := by decide +kernel
theorem dX10_readsOne_286 : decode cX10_readsOne 286 = .ok (.iload 4, 2) := by decide +kernel
theorem dX10_readsOne_288 : decode cX10_readsOne 288 = .ok (.iaload, 1) := by decide +kernel
theorem dX10_readsOne_289 : decode cX10_readsOne 289 = .ok (.ifCond .lt 7, 3) := by decide +kernel
theorem dX10_readsOne_292 : decode cX10_readsOne 292 = .ok (.iconst 1, 1) := by decide +kernel
theorem dX10_readsOne_293 : decode cX10_readsOne 293 = .ok (.goto 4, 3) := by decide +kernel
theorem dX10_readsOne_296 : decode cX10_readsOne 296 = .ok (.iconst 0, 1) := by decide +kernel
theorem dX10_readsOne_297 : decode cX10_readsOne 297 = .ok (.ireturn, 1) := by decide +kernel
theorem dX10_readsRoll_0 : decode cX10_readsRoll 0 = .ok (.aload_n 0, 1) := by decide +kernel
theorem dX10_readsRoll_1 : decode cX10_readsRoll 1 = .ok (.iconst 0, 1) := by decide +kernel
theorem dX10_readsRoll_2 : decode cX10_readsRoll 2 = .ok (.putfield 100, 3) := by decide +kernel
theorem dX10_readsRoll_5 : decode cX10_readsRoll 5 = .ok (.aload_n 0, 1) := by decide +kernel
theorem dX10_readsRoll_6 : decode cX10_readsRoll 6 = .ok (.iconst 0, 1) := by decide +kernel
theorem dX10_readsRoll_7 : decode cX10_readsRoll 7 = .ok (.putfield 109, 3) := by decide +kernel
theorem dX10_readsRoll_10 : decode cX10_readsRoll 10 = .ok (.aload_n 0, 1) := by decide +kernel
theorem dX10_readsRoll_11 : decode cX10_readsRoll 11 = .ok (.iload_n 1, 1) := by decide +kernel
theorem dX10_readsRoll_12 : decode cX10_readsRoll 12 = .ok (.iload_n 2, 1) := by decide +kernel
theorem dX10_readsRoll_13 : decode cX10_readsRoll 13 = .ok (.invokevirtual 116, 3) := by decide +kernel
theorem dX10_readsRoll_16 : decode cX10_readsRoll 16 = .ok (.istore_n 3, 1) := by decide +kernel
theorem dX10_readsRoll_17 : decode cX10_readsRoll 17 = .ok (.iload_n 3, 1) := by decide +kernel
theorem dX10_readsRoll_18 : decode cX10_readsRoll 18 = .ok (.ifCond .eq 21, 3) := by decide +kernel
theorem dX10_readsRoll_21 : decode cX10_readsRoll 21 = .ok (.aload_n 0, 1) := by decide +kernel
theorem dX10_readsRoll_22 : decode cX10_readsRoll 22 = .ok (.getfield 100, 3) := by decide +kernel
theorem dX10_readsRoll_25 : decode cX10_readsRoll 25 = .ok (.iload_n 2, 1) := by decide +kernel
theorem dX10_readsRoll_26 : decode cX10_readsRoll 26 = .ok (.if_icmp .ge 13, 3) := by decide +kernel
theorem dX10_readsRoll_29 : decode cX10_readsRoll 29 = .ok (.aload_n 0, 1) := by decide +kernel
theorem dX10_readsRoll_30 : decode cX10_readsRoll 30 = .ok (.iload_n 1, 1) := by decide +kernel
theorem dX10_readsRoll_31 : decode cX10_readsRoll 31 = .ok (.iload_n 2, 1) := by decide +kernel
theorem dX10_readsRoll_32 : decode cX10_readsRoll 32 = .ok (.invokevirtual 116, 3) := by decide +kernel
theorem dX10_readsRoll_35 : decode cX10_readsRoll 35 = .ok (.istore_n 3, 1) := by decide +kernel
theorem dX10_readsRoll_36 : decode cX10_readsRoll 36 = .ok (.goto (-19), 3) := by decide +kernel
theorem dX10_readsRoll_39 : decode cX10_readsRoll 39 = .ok (.iload_n 3, 1) := by decide +kernel
theorem dX10_readsRoll_40 : decode cX10_readsRoll 40 = .ok (.ireturn, 1) := by decide +kernel
theorem dX10_roll_0 : decode cX10_roll 0 = .ok (.aload_n 0, 1) := by decide +kernel
theorem dX10_roll_1 : decode cX10_roll 1 = .ok (.iload_n 1, 1) := by decide +kernel
theorem dX10_roll_2 : decode cX10_roll 2 = .ok (.iload_n 2, 1) := by decide +kernel
theorem dX10_roll_3 : decode cX10_roll 3 = .ok (.iload_n 3, 1) := by decide +kernel
theorem dX10_roll_4 : decode cX10_roll 4 = .ok (.iload 4, 2) := by decide +kernel
theorem dX10_roll_6 : decode cX10_roll 6 = .ok (.i2l, 1) := by decide +kernel
theorem dX10_roll_7 : decode cX10_roll 7 = .ok (.iconst 1, 1) := by decide +kernel
theorem dX10_roll_8 : decode cX10_roll 8 = .ok (.invokevirtual 120, 3) := by decide +kernel
theorem dX10_roll_11 : decode cX10_roll 11 = .ok (.istore 5, 2) := by decide +kernel
theorem dX10_roll_13 : decode cX10_roll 13 = .ok (.iload 5, 2) := by decide +kernel
theorem dX10_roll_15 : decode cX10_roll 15 = .ok (.ifCond .ge 6, 3) := by decide +kernel
theorem dX10_roll_18 : decode cX10_roll 18 = .ok (.iload 5, 2) := by decide +kernel
theorem dX10_roll_20 : decode cX10_roll 20 = .ok (.ireturn, 1) := by decide +kernel
theorem dX10_roll_21 : decode cX10_roll 21 = .ok (.aload_n 0, 1) := by decide +kernel
theorem dX10_roll_22 : decode cX10_roll 22 = .ok (.bipush 100, 2) := by decide +kernel
theorem dX10_roll_24 : decode cX10_roll 24 = .ok (.iload_n 1, 1) := by decide +kernel
theorem dX10_roll_25 : decode cX10_roll 25 = .ok (.imul, 1) := by decide +kernel
theorem dX10_roll_26 : decode cX10_roll 26 = .ok (.iload_n 3, 1) := by decide +kernel
theorem dX10_roll_27 : decode cX10_roll 27 = .ok (.iadd, 1) := by decide +kernel
theorem dX10_roll_28 : decode cX10_roll 28 = .ok (.iload 4, 2) := by decide +kernel
theorem dX10_roll_30 : decode cX10_roll 30 = .ok (.invokevirtual 124, 3) := by decide +kernel
theorem dX10_roll_33 : decode cX10_roll 33 = .ok (.ifCond .ne 15, 3) := by decide +kernel
theorem dX10_roll_36 : decode cX10_roll 36 = .ok (.aload_n 0, 1) := by decide +kernel
theorem dX10_roll_37 : decode cX10_roll 37 = .ok (.bipush (-100), 2) := by decide +kernel
theorem dX10_roll_39 : decode cX10_roll 39 = .ok (.aload_n 0, 1) := by decide +kernel
theorem dX10_roll_40 : decode cX10_roll 40 = .ok (.getfield 100, 3) := by decide +kernel
theorem dX10_roll_43 : decode cX10_roll 43 = .ok (.isub, 1) := by decide +kernel
theorem dX10_roll_44 : decode cX10_roll 44 = .ok (.invokevirtual 76, 3) := by decide +kernel
theorem dX10_roll_47 : decode cX10_roll 47 = .ok (.ireturn, 1) := by decide +kernel
theorem dX10_roll_48 : decode cX10_roll 48 = .ok (.aload_n 0, 1) := by decide +kernel
theorem dX10_roll_49 : decode cX10_roll 49 = .ok (.aload_n 0, 1) := by decide +kernel
theorem dX10_roll_50 : decode cX10_roll 50 = .ok (.getfield 109, 3) := by decide +kernel
theorem dX10_roll_53 : decode cX10_roll 53 = .ok (.putfield 93, 3) := by decide +kernel
theorem dX10_roll_56 : decode cX10_roll 56 = .ok (.iconst 0, 1) := by decide +kernel
theorem dX10_roll_57 : decode cX10_roll 57 = .ok (.istore 6, 2) := by decide +kernel
theorem dX10_roll_59 : decode cX10_roll 59 = .ok (.iload 6, 2) := by decide +kernel
theorem dX10_roll_61 : decode cX10_roll 61 = .ok (.aload_n 0, 1) := by decide +kernel
theorem dX10_roll_62 : decode cX10_roll 62 = .ok (.getfield 93, 3) := by decide +kernel
theorem dX10_roll_65 : decode cX10_roll 65 = .ok (.if_icmp .ge 79, 3) := by decide +kernel
theorem dX10_roll_68 : decode cX10_roll 68 = .ok (.aload_n 0, 1) := by decide +kernel
theorem dX10_roll_69 : decode cX10_roll 69 = .ok (.getfield 7, 3) := by decide +kernel
theorem dX10_roll_72 : decode cX10_roll 72 = .ok (.iload 6, 2) := by decide +kernel
theorem dX10_roll_74 : decode cX10_roll 74 = .ok (.aload_n 0, 1) := by decide +kernel
theorem dX10_roll_75 : decode cX10_roll 75 = .ok (.getfield 25, 3) := by decide +kernel
theorem dX10_roll_78 : decode cX10_roll 78 = .ok (.iload 6, 2) := by decide +kernel
theorem dX10_roll_80 : decode cX10_roll 80 = .ok (.iaload, 1) := by decide +kernel
theorem dX10_roll_81 : decode cX10_roll 81 = .ok (.iastore, 1) := by decide +kernel
theorem dX10_roll_82 : decode cX10_roll 82 = .ok (.aload_n 0, 1) := by decide +kernel
theorem dX10_roll_83 : decode cX10_roll 83 = .ok (.getfield 13, 3) := by decide +kernel
theorem dX10_roll_86 : decode cX10_roll 86 = .ok (.iload 6, 2) := by decide +kernel
theorem dX10_roll_88 : decode cX10_roll 88 = .ok (.aload_n 0, 1) := by decide +kernel
theorem dX10_roll_89 : decode cX10_roll 89 = .ok (.getfield 28, 3) := by decide +kernel
theorem dX10_roll_92 : decode cX10_roll 92 = .ok (.iload 6, 2) := by decide +kernel
theorem dX10_roll_94 : decode cX10_roll 94 = .ok (.iaload, 1) := by decide +kernel
theorem dX10_roll_95 : decode cX10_roll 95 = .ok (.iastore, 1) := by decide +kernel
theorem dX10_roll_96 : decode cX10_roll 96 = .ok (.aload_n 0, 1) := by decide +kernel
theorem dX10_roll_97 : decode cX10_roll 97 = .ok (.getfield 16, 3) := by decide +kernel
theorem dX10_roll_100 : decode cX10_roll 100 = .ok (.iload 6, 2) := by decide +kernel
theorem dX10_roll_102 : decode cX10_roll 102 = .ok (.aload_n 0, 1) := by decide +kernel
theorem dX10_roll_103 : decode cX10_roll 103 = .ok (.getfield 31, 3) := by decide +kernel
theorem dX10_roll_106 : decode cX10_roll 106 = .ok (.iload 6, 2) := by decide +kernel
theorem dX10_roll_108 : decode cX10_roll 108 = .ok (.iaload, 1) := by decide +kernel
theorem dX10_roll_109 : decode cX10_roll 109 = .ok (.iastore, 1) := by decide +kernel
theorem dX10_roll_110 : decode cX10_roll 110 = .ok (.aload_n 0, 1) := by decide +kernel
theorem dX10_roll_111 : decode cX10_roll 111 = .ok (.getfield 19, 3) := by decide +kernel
theorem dX10_roll_114 : decode cX10_roll 114 = .ok (.iload 6, 2) := by decide +kernel
theorem dX10_roll_116 : decode cX10_roll 116 = .ok (.aload_n 0, 1) := by decide +kernel
theorem dX10_roll_117 : decode cX10_roll 117 = .ok (.getfield 34, 3) := by decide +kernel
theorem dX10_roll_120 : decode cX10_roll 120 = .ok (.iload 6, 2) := by decide +kernel
theorem dX10_roll_122 : decode cX10_roll 122 = .ok (.iaload, 1) := by decide +kernel
theorem dX10_roll_123 : decode cX10_roll 123 = .ok (.iastore, 1) := by decide +kernel
theorem dX10_roll_124 : decode cX10_roll 124 = .ok (.aload_n 0, 1) := by decide +kernel
theorem dX10_roll_125 : decode cX10_roll 125 = .ok (.getfield 22, 3) := by decide +kernel
theorem dX10_roll_128 : decode cX10_roll 128 = .ok (.iload 6, 2) := by decide +kernel
theorem dX10_roll_130 : decode cX10_roll 130 = .ok (.aload_n 0, 1) := by decide +kernel
theorem dX10_roll_131 : decode cX10_roll 131 = .ok (.getfield 37, 3) := by decide +kernel
theorem dX10_roll_134 : decode cX10_roll 134 = .ok (.iload 6, 2) := by decide +kernel
theorem dX10_roll_136 : decode cX10_roll 136 = .ok (.iaload, 1) := by decide +kernel
theorem dX10_roll_137 : decode cX10_roll 137 = .ok (.iastore, 1) := by decide +kernel
theorem dX10_roll_138 : decode cX10_roll 138 = .ok (.iinc 6 1, 3) := by decide +kernel
theorem dX10_roll_141 : decode cX10_roll 141 = .ok (.goto (-82), 3) := by decide +kernel
theorem dX10_roll_144 : decode cX10_roll 144 = .ok (.aload_n 0, 1) := by decide +kernel
theorem dX10_roll_145 : decode cX10_roll 145 = .ok (.aload_n 0, 1) := by decide +kernel
theorem dX10_roll_146 : decode cX10_roll 146 = .ok (.getfield 93, 3) := by decide +kernel
theorem dX10_roll_149 : decode cX10_roll 149 = .ok (.invokevirtual 76, 3) := by decide +kernel
theorem dX10_roll_152 : decode cX10_roll 152 = .ok (.ireturn, 1) := by decide +kernel
theorem dX10_ofOne_0 : decode cX10_ofOne 0 = .ok (.aload_n 0, 1) := by decide +kernel
theorem dX10_ofOne_1 : decode cX10_ofOne 1 = .ok (.iload_n 1, 1) := by decide +kernel
theorem dX10_ofOne_2 : decode cX10_ofOne 2 = .ok (.invokevirtual 127, 3) := by decide +kernel
theorem dX10_ofOne_5 : decode cX10_ofOne 5 = .ok (.ifCond .eq 5, 3) := by decide +kernel
theorem dX10_ofOne_8 : decode cX10_ofOne 8 = .ok (.iconst (-1), 1) := by decide +kernel
theorem dX10_ofOne_9 : decode cX10_ofOne 9 = .ok (.ireturn, 1) := by decide +kernel
theorem dX10_ofOne_10 : decode cX10_ofOne 10 = .ok (.iload_n 2, 1) := by decide +kernel
theorem dX10_ofOne_11 : decode cX10_ofOne 11 = .ok (.tableswitch 68 0 4 #[33, 40, 47, 54, 61], 33) := by decide +kernel
theorem dX10_ofOne_44 : decode cX10_ofOne 44 = .ok (.aload_n 0, 1) := by decide +kernel
theorem dX10_ofOne_45 : decode cX10_ofOne 45 = .ok (.getfield 7, 3) := by decide +kernel
theorem dX10_ofOne_48 : decode cX10_ofOne 48 = .ok (.iload_n 1, 1) := by decide +kernel
theorem dX10_ofOne_49 : decode cX10_ofOne 49 = .ok (.iaload, 1) := by decide +kernel
theorem dX10_ofOne_50 : decode cX10_ofOne 50 = .ok (.ireturn, 1) := by decide +kernel
theorem dX10_ofOne_51 : decode cX10_ofOne 51 = .ok (.aload_n 0, 1) := by decide +kernel
theorem dX10_ofOne_52 : decode cX10_ofOne 52 = .ok (.getfield 13, 3) := by decide +kernel
theorem dX10_ofOne_55 : decode cX10_ofOne 55 = .ok (.iload_n 1, 1) := by decide +kernel
theorem dX10_ofOne_56 : decode cX10_ofOne 56 = .ok (.iaload, 1) := by decide +kernel
theorem dX10_ofOne_57 : decode cX10_ofOne 57 = .ok (.ireturn, 1) := by decide +kernel
theorem dX10_ofOne_58 : decode cX10_ofOne 58 = .ok (.aload_n 0, 1) := by decide +kernel
theorem dX10_ofOne_59 : decode cX10_ofOne 59 = .ok (.getfield 16, 3) := by decide +kernel
theorem dX10_ofOne_62 : decode cX10_ofOne 62 = .ok (.iload_n 1, 1) := by decide +kernel
theorem dX10_ofOne_63 : decode cX10_ofOne 63 = .ok (.iaload, 1) := by decide +kernel
theorem dX10_ofOne_64 : decode cX10_ofOne 64 = .ok (.ireturn, 1) := by decide +kernel
theorem dX10_ofOne_65 : decode cX10_ofOne 65 = .ok (.aload_n 0, 1) := by decide +kernel
theorem dX10_ofOne_66 : decode cX10_ofOne 66 = .ok (.getfield 19, 3) := by decide +kernel
theorem dX10_ofOne_69 : decode cX10_ofOne 69 = .ok (.iload_n 1, 1) := by decide +kernel
theorem dX10_ofOne_70 : decode cX10_ofOne 70 = .ok (.iaload, 1) := by decide +kernel
theorem dX10_ofOne_71 : decode cX10_ofOne 71 = .ok (.ireturn, 1) := by decide +kernel
theorem dX10_ofOne_72 : decode cX10_ofOne 72 = .ok (.aload_n 0, 1) := by decide +kernel
theorem dX10_ofOne_73 : decode cX10_ofOne 73 = .ok (.getfield 22, 3) := by decide +kernel
theorem dX10_ofOne_76 : decode cX10_ofOne 76 = .ok (.iload_n 1, 1) := by decide +kernel
theorem dX10_ofOne_77 : decode cX10_ofOne 77 = .ok (.iaload, 1) := by decide +kernel
theorem dX10_ofOne_78 : decode cX10_ofOne 78 = .ok (.ireturn, 1) := by decide +kernel
theorem dX10_ofOne_79 : decode cX10_ofOne 79 = .ok (.bipush (-2), 2) := by decide +kernel
theorem dX10_ofOne_81 : decode cX10_ofOne 81 = .ok (.ireturn, 1) := by decide +kernel
theorem dX10_doesLive_0 : decode cX10_doesLive 0 = .ok (.aload_n 0, 1) := by decide +kernel
theorem dX10_doesLive_1 : decode cX10_doesLive 1 = .ok (.getfield 22, 3) := by decide +kernel
theorem dX10_doesLive_4 : decode cX10_doesLive 4 = .ok (.iload_n 1, 1) := by decide +kernel
theorem dX10_doesLive_5 : decode cX10_doesLive 5 = .ok (.iaload, 1) := by decide +kernel
theorem dX10_doesLive_6 : decode cX10_doesLive 6 = .ok (.aload_n 0, 1) := by decide +kernel
theorem dX10_doesLive_7 : decode cX10_doesLive 7 = .ok (.getfield 7, 3) := by decide +kernel
theorem dX10_doesLive_10 : decode cX10_doesLive 10 = .ok (.iload_n 1, 1) := by decide +kernel
theorem dX10_doesLive_11 : decode cX10_doesLive 11 = .ok (.iaload, 1) := by decide +kernel
