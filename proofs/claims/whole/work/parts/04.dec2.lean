theorem dX6_digit_7 : decode cX6_digit 7 = .ok (.bipush 48, 2) := by decide +kernel
theorem dX6_digit_9 : decode cX6_digit 9 = .ok (.if_icmp .lt 16, 3) := by decide +kernel
theorem dX6_digit_12 : decode cX6_digit 12 = .ok (.iload_n 2, 1) := by decide +kernel
theorem dX6_digit_13 : decode cX6_digit 13 = .ok (.bipush 57, 2) := by decide +kernel
theorem dX6_digit_15 : decode cX6_digit 15 = .ok (.if_icmp .gt 10, 3) := by decide +kernel
theorem dX6_digit_18 : decode cX6_digit 18 = .ok (.iload_n 2, 1) := by decide +kernel
theorem dX6_digit_19 : decode cX6_digit 19 = .ok (.bipush 48, 2) := by decide +kernel
theorem dX6_digit_21 : decode cX6_digit 21 = .ok (.isub, 1) := by decide +kernel
theorem dX6_digit_22 : decode cX6_digit 22 = .ok (.goto 4, 3) := by decide +kernel
theorem dX6_digit_25 : decode cX6_digit 25 = .ok (.iconst (-1), 1) := by decide +kernel
theorem dX6_digit_26 : decode cX6_digit 26 = .ok (.ireturn, 1) := by decide +kernel
theorem dX6_pair_0 : decode cX6_pair 0 = .ok (.bipush 10, 2) := by decide +kernel
theorem dX6_pair_2 : decode cX6_pair 2 = .ok (.aload_n 0, 1) := by decide +kernel
theorem dX6_pair_3 : decode cX6_pair 3 = .ok (.iload_n 1, 1) := by decide +kernel
theorem dX6_pair_4 : decode cX6_pair 4 = .ok (.invokevirtual 37, 3) := by decide +kernel
theorem dX6_pair_7 : decode cX6_pair 7 = .ok (.imul, 1) := by decide +kernel
theorem dX6_pair_8 : decode cX6_pair 8 = .ok (.aload_n 0, 1) := by decide +kernel
theorem dX6_pair_9 : decode cX6_pair 9 = .ok (.iload_n 1, 1) := by decide +kernel
theorem dX6_pair_10 : decode cX6_pair 10 = .ok (.iconst 1, 1) := by decide +kernel
theorem dX6_pair_11 : decode cX6_pair 11 = .ok (.iadd, 1) := by decide +kernel
theorem dX6_pair_12 : decode cX6_pair 12 = .ok (.invokevirtual 37, 3) := by decide +kernel
theorem dX6_pair_15 : decode cX6_pair 15 = .ok (.iadd, 1) := by decide +kernel
theorem dX6_pair_16 : decode cX6_pair 16 = .ok (.ireturn, 1) := by decide +kernel
theorem dX6_goesOn_0 : decode cX6_goesOn 0 = .ok (.aload_n 0, 1) := by decide +kernel
theorem dX6_goesOn_1 : decode cX6_goesOn 1 = .ok (.iload_n 1, 1) := by decide +kernel
theorem dX6_goesOn_2 : decode cX6_goesOn 2 = .ok (.invokevirtual 44, 3) := by decide +kernel
theorem dX6_goesOn_5 : decode cX6_goesOn 5 = .ok (.istore_n 2, 1) := by decide +kernel
theorem dX6_goesOn_6 : decode cX6_goesOn 6 = .ok (.iload_n 1, 1) := by decide +kernel
theorem dX6_goesOn_7 : decode cX6_goesOn 7 = .ok (.bipush 9, 2) := by decide +kernel
theorem dX6_goesOn_9 : decode cX6_goesOn 9 = .ok (.irem, 1) := by decide +kernel
theorem dX6_goesOn_10 : decode cX6_goesOn 10 = .ok (.istore_n 3, 1) := by decide +kernel
theorem dX6_goesOn_11 : decode cX6_goesOn 11 = .ok (.iload_n 3, 1) := by decide +kernel
theorem dX6_goesOn_12 : decode cX6_goesOn 12 = .ok (.ifCond .ne 27, 3) := by decide +kernel
theorem dX6_goesOn_15 : decode cX6_goesOn 15 = .ok (.iload_n 2, 1) := by decide +kernel
theorem dX6_goesOn_16 : decode cX6_goesOn 16 = .ok (.bipush 110, 2) := by decide +kernel
theorem dX6_goesOn_18 : decode cX6_goesOn 18 = .ok (.if_icmp .eq 15, 3) := by decide +kernel
theorem dX6_goesOn_21 : decode cX6_goesOn 21 = .ok (.iload_n 2, 1) := by decide +kernel
theorem dX6_goesOn_22 : decode cX6_goesOn 22 = .ok (.bipush 108, 2) := by decide +kernel
theorem dX6_goesOn_24 : decode cX6_goesOn 24 = .ok (.if_icmp .eq 9, 3) := by decide +kernel
theorem dX6_goesOn_27 : decode cX6_goesOn 27 = .ok (.iload_n 2, 1) := by decide +kernel
theorem dX6_goesOn_28 : decode cX6_goesOn 28 = .ok (.bipush 102, 2) := by decide +kernel
theorem dX6_goesOn_30 : decode cX6_goesOn 30 = .ok (.if_icmp .ne 7, 3) := by decide +kernel
theorem dX6_goesOn_33 : decode cX6_goesOn 33 = .ok (.iconst 1, 1) := by decide +kernel
theorem dX6_goesOn_34 : decode cX6_goesOn 34 = .ok (.goto 4, 3) := by decide +kernel
theorem dX6_goesOn_37 : decode cX6_goesOn 37 = .ok (.iconst 0, 1) := by decide +kernel
theorem dX6_goesOn_38 : decode cX6_goesOn 38 = .ok (.ireturn, 1) := by decide +kernel
theorem dX6_goesOn_39 : decode cX6_goesOn 39 = .ok (.iload_n 3, 1) := by decide +kernel
theorem dX6_goesOn_40 : decode cX6_goesOn 40 = .ok (.iconst 1, 1) := by decide +kernel
theorem dX6_goesOn_41 : decode cX6_goesOn 41 = .ok (.if_icmp .ne 21, 3) := by decide +kernel
theorem dX6_goesOn_44 : decode cX6_goesOn 44 = .ok (.iload_n 2, 1) := by decide +kernel
theorem dX6_goesOn_45 : decode cX6_goesOn 45 = .ok (.bipush 48, 2) := by decide +kernel
theorem dX6_goesOn_47 : decode cX6_goesOn 47 = .ok (.if_icmp .eq 9, 3) := by decide +kernel
theorem dX6_goesOn_50 : decode cX6_goesOn 50 = .ok (.iload_n 2, 1) := by decide +kernel
theorem dX6_goesOn_51 : decode cX6_goesOn 51 = .ok (.bipush 49, 2) := by decide +kernel
theorem dX6_goesOn_53 : decode cX6_goesOn 53 = .ok (.if_icmp .ne 7, 3) := by decide +kernel
theorem dX6_goesOn_56 : decode cX6_goesOn 56 = .ok (.iconst 1, 1) := by decide +kernel
theorem dX6_goesOn_57 : decode cX6_goesOn 57 = .ok (.goto 4, 3) := by decide +kernel
theorem dX6_goesOn_60 : decode cX6_goesOn 60 = .ok (.iconst 0, 1) := by decide +kernel
theorem dX6_goesOn_61 : decode cX6_goesOn 61 = .ok (.ireturn, 1) := by decide +kernel
theorem dX6_goesOn_62 : decode cX6_goesOn 62 = .ok (.iload_n 3, 1) := by decide +kernel
theorem dX6_goesOn_63 : decode cX6_goesOn 63 = .ok (.bipush 8, 2) := by decide +kernel
theorem dX6_goesOn_65 : decode cX6_goesOn 65 = .ok (.if_icmp .ne 21, 3) := by decide +kernel
theorem dX6_goesOn_68 : decode cX6_goesOn 68 = .ok (.iload_n 2, 1) := by decide +kernel
theorem dX6_goesOn_69 : decode cX6_goesOn 69 = .ok (.bipush 59, 2) := by decide +kernel
theorem dX6_goesOn_71 : decode cX6_goesOn 71 = .ok (.if_icmp .ne 13, 3) := by decide +kernel
theorem dX6_goesOn_74 : decode cX6_goesOn 74 = .ok (.iload_n 1, 1) := by decide +kernel
theorem dX6_goesOn_75 : decode cX6_goesOn 75 = .ok (.bipush 89, 2) := by decide +kernel
theorem dX6_goesOn_77 : decode cX6_goesOn 77 = .ok (.if_icmp .ge 7, 3) := by decide +kernel
theorem dX6_goesOn_80 : decode cX6_goesOn 80 = .ok (.iconst 1, 1) := by decide +kernel
theorem dX6_goesOn_81 : decode cX6_goesOn 81 = .ok (.goto 4, 3) := by decide +kernel
theorem dX6_goesOn_84 : decode cX6_goesOn 84 = .ok (.iconst 0, 1) := by decide +kernel
theorem dX6_goesOn_85 : decode cX6_goesOn 85 = .ok (.ireturn, 1) := by decide +kernel
theorem dX6_goesOn_86 : decode cX6_goesOn 86 = .ok (.aload_n 0, 1) := by decide +kernel
theorem dX6_goesOn_87 : decode cX6_goesOn 87 = .ok (.iload_n 1, 1) := by decide +kernel
theorem dX6_goesOn_88 : decode cX6_goesOn 88 = .ok (.invokevirtual 37, 3) := by decide +kernel
theorem dX6_goesOn_91 : decode cX6_goesOn 91 = .ok (.ifCond .lt 18, 3) := by decide +kernel
theorem dX6_goesOn_94 : decode cX6_goesOn 94 = .ok (.aload_n 0, 1) := by decide +kernel
theorem dX6_goesOn_95 : decode cX6_goesOn 95 = .ok (.iload_n 1, 1) := by decide +kernel
theorem dX6_goesOn_96 : decode cX6_goesOn 96 = .ok (.iload_n 3, 1) := by decide +kernel
theorem dX6_goesOn_97 : decode cX6_goesOn 97 = .ok (.isub, 1) := by decide +kernel
theorem dX6_goesOn_98 : decode cX6_goesOn 98 = .ok (.iload_n 3, 1) := by decide +kernel
theorem dX6_goesOn_99 : decode cX6_goesOn 99 = .ok (.invokevirtual 58, 3) := by decide +kernel
theorem dX6_goesOn_102 : decode cX6_goesOn 102 = .ok (.ifCond .eq 7, 3) := by decide +kernel
theorem dX6_goesOn_105 : decode cX6_goesOn 105 = .ok (.iconst 1, 1) := by decide +kernel
theorem dX6_goesOn_106 : decode cX6_goesOn 106 = .ok (.goto 4, 3) := by decide +kernel
theorem dX6_goesOn_109 : decode cX6_goesOn 109 = .ok (.iconst 0, 1) := by decide +kernel
theorem dX6_goesOn_110 : decode cX6_goesOn 110 = .ok (.ireturn, 1) := by decide +kernel
theorem dX6_isPairGoingOn_0 : decode cX6_isPairGoingOn 0 = .ok (.iload_n 2, 1) := by decide +kernel
theorem dX6_isPairGoingOn_1 : decode cX6_isPairGoingOn 1 = .ok (.iconst 2, 1) := by decide +kernel
theorem dX6_isPairGoingOn_2 : decode cX6_isPairGoingOn 2 = .ok (.irem, 1) := by decide +kernel
theorem dX6_isPairGoingOn_3 : decode cX6_isPairGoingOn 3 = .ok (.ifCond .ne 7, 3) := by decide +kernel
theorem dX6_isPairGoingOn_6 : decode cX6_isPairGoingOn 6 = .ok (.iconst 1, 1) := by decide +kernel
theorem dX6_isPairGoingOn_7 : decode cX6_isPairGoingOn 7 = .ok (.goto 4, 3) := by decide +kernel
theorem dX6_isPairGoingOn_10 : decode cX6_isPairGoingOn 10 = .ok (.iconst 0, 1) := by decide +kernel
theorem dX6_isPairGoingOn_11 : decode cX6_isPairGoingOn 11 = .ok (.istore_n 3, 1) := by decide +kernel
theorem dX6_isPairGoingOn_12 : decode cX6_isPairGoingOn 12 = .ok (.iload_n 3, 1) := by decide +kernel
theorem dX6_isPairGoingOn_13 : decode cX6_isPairGoingOn 13 = .ok (.ifCond .eq 16, 3) := by decide +kernel
theorem dX6_isPairGoingOn_16 : decode cX6_isPairGoingOn 16 = .ok (.bipush 10, 2) := by decide +kernel
theorem dX6_isPairGoingOn_18 : decode cX6_isPairGoingOn 18 = .ok (.aload_n 0, 1) := by decide +kernel
theorem dX6_isPairGoingOn_19 : decode cX6_isPairGoingOn 19 = .ok (.iload_n 1, 1) := by decide +kernel
theorem dX6_isPairGoingOn_20 : decode cX6_isPairGoingOn 20 = .ok (.iload_n 2, 1) := by decide +kernel
theorem dX6_isPairGoingOn_21 : decode cX6_isPairGoingOn 21 = .ok (.iadd, 1) := by decide +kernel
theorem dX6_isPairGoingOn_22 : decode cX6_isPairGoingOn 22 = .ok (.invokevirtual 37, 3) := by decide +kernel
theorem dX6_isPairGoingOn_25 : decode cX6_isPairGoingOn 25 = .ok (.imul, 1) := by decide +kernel
theorem dX6_isPairGoingOn_26 : decode cX6_isPairGoingOn 26 = .ok (.goto 12, 3) := by decide +kernel
theorem dX6_isPairGoingOn_29 : decode cX6_isPairGoingOn 29 = .ok (.aload_n 0, 1) := by decide +kernel
theorem dX6_isPairGoingOn_30 : decode cX6_isPairGoingOn 30 = .ok (.iload_n 1, 1) := by decide +kernel
theorem dX6_isPairGoingOn_31 : decode cX6_isPairGoingOn 31 = .ok (.iload_n 2, 1) := by decide +kernel
theorem dX6_isPairGoingOn_32 : decode cX6_isPairGoingOn 32 = .ok (.iadd, 1) := by decide +kernel
theorem dX6_isPairGoingOn_33 : decode cX6_isPairGoingOn 33 = .ok (.iconst 1, 1) := by decide +kernel
theorem dX6_isPairGoingOn_34 : decode cX6_isPairGoingOn 34 = .ok (.isub, 1) := by decide +kernel
theorem dX6_isPairGoingOn_35 : decode cX6_isPairGoingOn 35 = .ok (.invokevirtual 41, 3) := by decide +kernel
theorem dX6_isPairGoingOn_38 : decode cX6_isPairGoingOn 38 = .ok (.istore 4, 2) := by decide +kernel
theorem dX6_isPairGoingOn_40 : decode cX6_isPairGoingOn 40 = .ok (.iload_n 3, 1) := by decide +kernel
theorem dX6_isPairGoingOn_41 : decode cX6_isPairGoingOn 41 = .ok (.ifCond .eq 11, 3) := by decide +kernel
theorem dX6_isPairGoingOn_44 : decode cX6_isPairGoingOn 44 = .ok (.iload 4, 2) := by decide +kernel
theorem dX6_isPairGoingOn_46 : decode cX6_isPairGoingOn 46 = .ok (.bipush 9, 2) := by decide +kernel
theorem dX6_isPairGoingOn_48 : decode cX6_isPairGoingOn 48 = .ok (.iadd, 1) := by decide +kernel
theorem dX6_isPairGoingOn_49 : decode cX6_isPairGoingOn 49 = .ok (.goto 5, 3) := by decide +kernel
theorem dX6_isPairGoingOn_52 : decode cX6_isPairGoingOn 52 = .ok (.iload 4, 2) := by decide +kernel
theorem dX6_isPairGoingOn_54 : decode cX6_isPairGoingOn 54 = .ok (.istore 5, 2) := by decide +kernel
theorem dX6_isPairGoingOn_56 : decode cX6_isPairGoingOn 56 = .ok (.iload_n 3, 1) := by decide +kernel
theorem dX6_isPairGoingOn_57 : decode cX6_isPairGoingOn 57 = .ok (.ifCond .eq 7, 3) := by decide +kernel
theorem dX6_isPairGoingOn_60 : decode cX6_isPairGoingOn 60 = .ok (.iload_n 2, 1) := by decide +kernel
theorem dX6_isPairGoingOn_61 : decode cX6_isPairGoingOn 61 = .ok (.goto 6, 3) := by decide +kernel
theorem dX6_isPairGoingOn_64 : decode cX6_isPairGoingOn 64 = .ok (.iload_n 2, 1) := by decide +kernel
theorem dX6_isPairGoingOn_65 : decode cX6_isPairGoingOn 65 = .ok (.iconst 1, 1) := by decide +kernel
theorem dX6_isPairGoingOn_66 : decode cX6_isPairGoingOn 66 = .ok (.isub, 1) := by decide +kernel
theorem dX6_isPairGoingOn_67 : decode cX6_isPairGoingOn 67 = .ok (.istore 6, 2) := by decide +kernel
theorem dX6_isPairGoingOn_69 : decode cX6_isPairGoingOn 69 = .ok (.iload 6, 2) := by decide +kernel
theorem dX6_isPairGoingOn_71 : decode cX6_isPairGoingOn 71 = .ok (.iconst 2, 1) := by decide +kernel
theorem dX6_isPairGoingOn_72 : decode cX6_isPairGoingOn 72 = .ok (.if_icmp .ne 15, 3) := by decide +kernel
theorem dX6_isPairGoingOn_75 : decode cX6_isPairGoingOn 75 = .ok (.iload 5, 2) := by decide +kernel
theorem dX6_isPairGoingOn_77 : decode cX6_isPairGoingOn 77 = .ok (.iconst 1, 1) := by decide +kernel
theorem dX6_isPairGoingOn_78 : decode cX6_isPairGoingOn 78 = .ok (.if_icmp .lt 7, 3) := by decide +kernel
theorem dX6_isPairGoingOn_81 : decode cX6_isPairGoingOn 81 = .ok (.iconst 1, 1) := by decide +kernel
theorem dX6_isPairGoingOn_82 : decode cX6_isPairGoingOn 82 = .ok (.goto 4, 3) := by decide +kernel
theorem dX6_isPairGoingOn_85 : decode cX6_isPairGoingOn 85 = .ok (.iconst 0, 1) := by decide +kernel
theorem dX6_isPairGoingOn_86 : decode cX6_isPairGoingOn 86 = .ok (.ireturn, 1) := by decide +kernel
theorem dX6_isPairGoingOn_87 : decode cX6_isPairGoingOn 87 = .ok (.iload 6, 2) := by decide +kernel
theorem dX6_isPairGoingOn_89 : decode cX6_isPairGoingOn 89 = .ok (.iconst 4, 1) := by decide +kernel
theorem dX6_isPairGoingOn_90 : decode cX6_isPairGoingOn 90 = .ok (.if_icmp .ne 16, 3) := by decide +kernel
theorem dX6_isPairGoingOn_93 : decode cX6_isPairGoingOn 93 = .ok (.iload 4, 2) := by decide +kernel
theorem dX6_isPairGoingOn_95 : decode cX6_isPairGoingOn 95 = .ok (.bipush 98, 2) := by decide +kernel
theorem dX6_isPairGoingOn_97 : decode cX6_isPairGoingOn 97 = .ok (.if_icmp .gt 7, 3) := by decide +kernel
theorem dX6_isPairGoingOn_100 : decode cX6_isPairGoingOn 100 = .ok (.iconst 1, 1) := by decide +kernel
theorem dX6_isPairGoingOn_101 : decode cX6_isPairGoingOn 101 = .ok (.goto 4, 3) := by decide +kernel
theorem dX6_isPairGoingOn_104 : decode cX6_isPairGoingOn 104 = .ok (.iconst 0, 1) := by decide +kernel
theorem dX6_isPairGoingOn_105 : decode cX6_isPairGoingOn 105 = .ok (.ireturn, 1) := by decide +kernel
theorem dX6_isPairGoingOn_106 : decode cX6_isPairGoingOn 106 = .ok (.iload 5, 2) := by decide +kernel
theorem dX6_isPairGoingOn_108 : decode cX6_isPairGoingOn 108 = .ok (.aload_n 0, 1) := by decide +kernel
theorem dX6_isPairGoingOn_109 : decode cX6_isPairGoingOn 109 = .ok (.iload_n 1, 1) := by decide +kernel
theorem dX6_isPairGoingOn_110 : decode cX6_isPairGoingOn 110 = .ok (.iconst 4, 1) := by decide +kernel
theorem dX6_isPairGoingOn_111 : decode cX6_isPairGoingOn 111 = .ok (.iadd, 1) := by decide +kernel
theorem dX6_isPairGoingOn_112 : decode cX6_isPairGoingOn 112 = .ok (.invokevirtual 41, 3) := by decide +kernel
theorem dX6_isPairGoingOn_115 : decode cX6_isPairGoingOn 115 = .ok (.if_icmp .le 7, 3) := by decide +kernel
theorem dX6_isPairGoingOn_118 : decode cX6_isPairGoingOn 118 = .ok (.iconst 1, 1) := by decide +kernel
theorem dX6_isPairGoingOn_119 : decode cX6_isPairGoingOn 119 = .ok (.goto 4, 3) := by decide +kernel
theorem dX6_isPairGoingOn_122 : decode cX6_isPairGoingOn 122 = .ok (.iconst 0, 1) := by decide +kernel
theorem dX6_isPairGoingOn_123 : decode cX6_isPairGoingOn 123 = .ok (.ireturn, 1) := by decide +kernel
theorem dX6_isSecondDigit_0 : decode cX6_isSecondDigit 0 = .ok (.iload_n 1, 1) := by decide +kernel
theorem dX6_isSecondDigit_1 : decode cX6_isSecondDigit 1 = .ok (.bipush 9, 2) := by decide +kernel
theorem dX6_isSecondDigit_3 : decode cX6_isSecondDigit 3 = .ok (.irem, 1) := by decide +kernel
theorem dX6_isSecondDigit_4 : decode cX6_isSecondDigit 4 = .ok (.istore_n 2, 1) := by decide +kernel
theorem dX6_isSecondDigit_5 : decode cX6_isSecondDigit 5 = .ok (.iload_n 2, 1) := by decide +kernel
theorem dX6_isSecondDigit_6 : decode cX6_isSecondDigit 6 = .ok (.iconst 2, 1) := by decide +kernel
theorem dX6_isSecondDigit_7 : decode cX6_isSecondDigit 7 = .ok (.if_icmp .le 28, 3) := by decide +kernel
theorem dX6_isSecondDigit_10 : decode cX6_isSecondDigit 10 = .ok (.iload_n 2, 1) := by decide +kernel
theorem dX6_isSecondDigit_11 : decode cX6_isSecondDigit 11 = .ok (.bipush 8, 2) := by decide +kernel
theorem dX6_isSecondDigit_13 : decode cX6_isSecondDigit 13 = .ok (.if_icmp .ge 22, 3) := by decide +kernel
theorem dX6_isSecondDigit_16 : decode cX6_isSecondDigit 16 = .ok (.iload_n 2, 1) := by decide +kernel
theorem dX6_isSecondDigit_17 : decode cX6_isSecondDigit 17 = .ok (.iconst 2, 1) := by decide +kernel
theorem dX6_isSecondDigit_18 : decode cX6_isSecondDigit 18 = .ok (.irem, 1) := by decide +kernel
theorem dX6_isSecondDigit_19 : decode cX6_isSecondDigit 19 = .ok (.iconst 1, 1) := by decide +kernel
theorem dX6_isSecondDigit_20 : decode cX6_isSecondDigit 20 = .ok (.if_icmp .ne 15, 3) := by decide +kernel
theorem dX6_isSecondDigit_23 : decode cX6_isSecondDigit 23 = .ok (.aload_n 0, 1) := by decide +kernel
theorem dX6_isSecondDigit_24 : decode cX6_isSecondDigit 24 = .ok (.iload_n 1, 1) := by decide +kernel
theorem dX6_isSecondDigit_25 : decode cX6_isSecondDigit 25 = .ok (.invokevirtual 37, 3) := by decide +kernel
theorem dX6_isSecondDigit_28 : decode cX6_isSecondDigit 28 = .ok (.ifCond .lt 7, 3) := by decide +kernel
theorem dX6_isSecondDigit_31 : decode cX6_isSecondDigit 31 = .ok (.iconst 1, 1) := by decide +kernel
theorem dX6_isSecondDigit_32 : decode cX6_isSecondDigit 32 = .ok (.goto 4, 3) := by decide +kernel
theorem dX6_isSecondDigit_35 : decode cX6_isSecondDigit 35 = .ok (.iconst 0, 1) := by decide +kernel
theorem dX6_isSecondDigit_36 : decode cX6_isSecondDigit 36 = .ok (.ireturn, 1) := by decide +kernel
theorem dX7_init_0 : decode cX7_init 0 = .ok (.aload_n 0, 1) := by decide +kernel
theorem dX7_init_1 : decode cX7_init 1 = .ok (.invokespecial 3, 3) := by decide +kernel
theorem dX7_init_4 : decode cX7_init 4 = .ok (.aload_n 0, 1) := by decide +kernel
theorem dX7_init_5 : decode cX7_init 5 = .ok (.sipush 400, 3) := by decide +kernel
theorem dX7_init_8 : decode cX7_init 8 = .ok (.newarray .int, 2) := by decide +kernel
theorem dX7_init_10 : decode cX7_init 10 = .ok (.putfield 9, 3) := by decide +kernel
theorem dX7_init_13 : decode cX7_init 13 = .ok (.aload_n 0, 1) := by decide +kernel
theorem dX7_init_14 : decode cX7_init 14 = .ok (.iconst 4, 1) := by decide +kernel
theorem dX7_init_15 : decode cX7_init 15 = .ok (.newarray .int, 2) := by decide +kernel
theorem dX7_init_17 : decode cX7_init 17 = .ok (.putfield 15, 3) := by decide +kernel
theorem dX7_init_20 : decode cX7_init 20 = .ok (.aload_n 0, 1) := by decide +kernel
theorem dX7_init_21 : decode cX7_init 21 = .ok (.iconst 4, 1) := by decide +kernel
theorem dX7_init_22 : decode cX7_init 22 = .ok (.newarray .int, 2) := by decide +kernel
theorem dX7_init_24 : decode cX7_init 24 = .ok (.putfield 18, 3) := by decide +kernel
theorem dX7_init_27 : decode cX7_init 27 = .ok (.iconst 0, 1) := by decide +kernel
theorem dX7_init_28 : decode cX7_init 28 = .ok (.istore_n 1, 1) := by decide +kernel
theorem dX7_init_29 : decode cX7_init 29 = .ok (.iload_n 1, 1) := by decide +kernel
theorem dX7_init_30 : decode cX7_init 30 = .ok (.aload_n 0, 1) := by decide +kernel
theorem dX7_init_31 : decode cX7_init 31 = .ok (.getfield 15, 3) := by decide +kernel
theorem dX7_init_34 : decode cX7_init 34 = .ok (.arraylength, 1) := by decide +kernel
theorem dX7_init_35 : decode cX7_init 35 = .ok (.if_icmp .ge 16, 3) := by decide +kernel
theorem dX7_init_38 : decode cX7_init 38 = .ok (.aload_n 0, 1) := by decide +kernel
theorem dX7_init_39 : decode cX7_init 39 = .ok (.getfield 15, 3) := by decide +kernel
theorem dX7_init_42 : decode cX7_init 42 = .ok (.iload_n 1, 1) := by decide +kernel
theorem dX7_init_43 : decode cX7_init 43 = .ok (.iconst (-1), 1) := by decide +kernel
theorem dX7_init_44 : decode cX7_init 44 = .ok (.iastore, 1) := by decide +kernel
theorem dX7_init_45 : decode cX7_init 45 = .ok (.iinc 1 1, 3) := by decide +kernel
theorem dX7_init_48 : decode cX7_init 48 = .ok (.goto (-19), 3) := by decide +kernel
theorem dX7_init_51 : decode cX7_init 51 = .ok (.return_, 1) := by decide +kernel
theorem dX7_laneOf_0 : decode cX7_laneOf 0 = .ok (.iload_n 1, 1) := by decide +kernel
theorem dX7_laneOf_1 : decode cX7_laneOf 1 = .ok (.ifCond .lt 21, 3) := by decide +kernel
theorem dX7_laneOf_4 : decode cX7_laneOf 4 = .ok (.iload_n 1, 1) := by decide +kernel
theorem dX7_laneOf_5 : decode cX7_laneOf 5 = .ok (.aload_n 0, 1) := by decide +kernel
theorem dX7_laneOf_6 : decode cX7_laneOf 6 = .ok (.getfield 15, 3) := by decide +kernel
theorem dX7_laneOf_9 : decode cX7_laneOf 9 = .ok (.arraylength, 1) := by decide +kernel
theorem dX7_laneOf_10 : decode cX7_laneOf 10 = .ok (.if_icmp .ge 12, 3) := by decide +kernel
theorem dX7_laneOf_13 : decode cX7_laneOf 13 = .ok (.aload_n 0, 1) := by decide +kernel
theorem dX7_laneOf_14 : decode cX7_laneOf 14 = .ok (.getfield 15, 3) := by decide +kernel
theorem dX7_laneOf_17 : decode cX7_laneOf 17 = .ok (.iload_n 1, 1) := by decide +kernel
theorem dX7_laneOf_18 : decode cX7_laneOf 18 = .ok (.iaload, 1) := by decide +kernel
theorem dX7_laneOf_19 : decode cX7_laneOf 19 = .ok (.goto 4, 3) := by decide +kernel
theorem dX7_laneOf_22 : decode cX7_laneOf 22 = .ok (.iconst (-1), 1) := by decide +kernel
theorem dX7_laneOf_23 : decode cX7_laneOf 23 = .ok (.ireturn, 1) := by decide +kernel
theorem dX7_hasRow_0 : decode cX7_hasRow 0 = .ok (.aload_n 0, 1) := by decide +kernel
theorem dX7_hasRow_1 : decode cX7_hasRow 1 = .ok (.iload_n 1, 1) := by decide +kernel
theorem dX7_hasRow_2 : decode cX7_hasRow 2 = .ok (.invokevirtual 21, 3) := by decide +kernel
theorem dX7_hasRow_5 : decode cX7_hasRow 5 = .ok (.iconst (-1), 1) := by decide +kernel
theorem dX7_hasRow_6 : decode cX7_hasRow 6 = .ok (.if_icmp .eq 7, 3) := by decide +kernel
theorem dX7_hasRow_9 : decode cX7_hasRow 9 = .ok (.iconst 1, 1) := by decide +kernel
theorem dX7_hasRow_10 : decode cX7_hasRow 10 = .ok (.goto 4, 3) := by decide +kernel
theorem dX7_hasRow_13 : decode cX7_hasRow 13 = .ok (.iconst 0, 1) := by decide +kernel
theorem dX7_hasRow_14 : decode cX7_hasRow 14 = .ok (.ireturn, 1) := by decide +kernel
theorem dX7_sizeOf_0 : decode cX7_sizeOf 0 = .ok (.iload_n 1, 1) := by decide +kernel
theorem dX7_sizeOf_1 : decode cX7_sizeOf 1 = .ok (.ifCond .lt 21, 3) := by decide +kernel
theorem dX7_sizeOf_4 : decode cX7_sizeOf 4 = .ok (.iload_n 1, 1) := by decide +kernel
theorem dX7_sizeOf_5 : decode cX7_sizeOf 5 = .ok (.aload_n 0, 1) := by decide +kernel
theorem dX7_sizeOf_6 : decode cX7_sizeOf 6 = .ok (.getfield 18, 3) := by decide +kernel
theorem dX7_sizeOf_9 : decode cX7_sizeOf 9 = .ok (.arraylength, 1) := by decide +kernel
theorem dX7_sizeOf_10 : decode cX7_sizeOf 10 = .ok (.if_icmp .ge 12, 3) := by decide +kernel
theorem dX7_sizeOf_13 : decode cX7_sizeOf 13 = .ok (.aload_n 0, 1) := by decide +kernel
theorem dX7_sizeOf_14 : decode cX7_sizeOf 14 = .ok (.getfield 18, 3) := by decide +kernel
theorem dX7_sizeOf_17 : decode cX7_sizeOf 17 = .ok (.iload_n 1, 1) := by decide +kernel
theorem dX7_sizeOf_18 : decode cX7_sizeOf 18 = .ok (.iaload, 1) := by decide +kernel
theorem dX7_sizeOf_19 : decode cX7_sizeOf 19 = .ok (.goto 4, 3) := by decide +kernel
theorem dX7_sizeOf_22 : decode cX7_sizeOf 22 = .ok (.iconst 0, 1) := by decide +kernel
theorem dX7_sizeOf_23 : decode cX7_sizeOf 23 = .ok (.ireturn, 1) := by decide +kernel
theorem dX7_hasCells_0 : decode cX7_hasCells 0 = .ok (.aload_n 0, 1) := by decide +kernel
theorem dX7_hasCells_1 : decode cX7_hasCells 1 = .ok (.iload_n 1, 1) := by decide +kernel
theorem dX7_hasCells_2 : decode cX7_hasCells 2 = .ok (.invokevirtual 25, 3) := by decide +kernel
theorem dX7_hasCells_5 : decode cX7_hasCells 5 = .ok (.istore 4, 2) := by decide +kernel
theorem dX7_hasCells_7 : decode cX7_hasCells 7 = .ok (.iload_n 3, 1) := by decide +kernel
theorem dX7_hasCells_8 : decode cX7_hasCells 8 = .ok (.ifCond .lt 25, 3) := by decide +kernel
theorem dX7_hasCells_11 : decode cX7_hasCells 11 = .ok (.iload_n 2, 1) := by decide +kernel
theorem dX7_hasCells_12 : decode cX7_hasCells 12 = .ok (.ifCond .lt 21, 3) := by decide +kernel
theorem dX7_hasCells_15 : decode cX7_hasCells 15 = .ok (.iload_n 2, 1) := by decide +kernel
theorem dX7_hasCells_16 : decode cX7_hasCells 16 = .ok (.iload 4, 2) := by decide +kernel
theorem dX7_hasCells_18 : decode cX7_hasCells 18 = .ok (.if_icmp .gt 15, 3) := by decide +kernel
theorem dX7_hasCells_21 : decode cX7_hasCells 21 = .ok (.iload_n 3, 1) := by decide +kernel
theorem dX7_hasCells_22 : decode cX7_hasCells 22 = .ok (.iload 4, 2) := by decide +kernel
theorem dX7_hasCells_24 : decode cX7_hasCells 24 = .ok (.iload_n 2, 1) := by decide +kernel
theorem dX7_hasCells_25 : decode cX7_hasCells 25 = .ok (.isub, 1) := by decide +kernel
theorem dX7_hasCells_26 : decode cX7_hasCells 26 = .ok (.if_icmp .gt 7, 3) := by decide +kernel
theorem dX7_hasCells_29 : decode cX7_hasCells 29 = .ok (.iconst 1, 1) := by decide +kernel
theorem dX7_hasCells_30 : decode cX7_hasCells 30 = .ok (.goto 4, 3) := by decide +kernel
theorem dX7_hasCells_33 : decode cX7_hasCells 33 = .ok (.iconst 0, 1) := by decide +kernel
theorem dX7_hasCells_34 : decode cX7_hasCells 34 = .ok (.ireturn, 1) := by decide +kernel
theorem dX7_standOf_0 : decode cX7_standOf 0 = .ok (.iload_n 1, 1) := by decide +kernel
theorem dX7_standOf_1 : decode cX7_standOf 1 = .ok (.bipush 100, 2) := by decide +kernel
theorem dX7_standOf_3 : decode cX7_standOf 3 = .ok (.imul, 1) := by decide +kernel
theorem dX7_standOf_4 : decode cX7_standOf 4 = .ok (.iload_n 2, 1) := by decide +kernel
theorem dX7_standOf_5 : decode cX7_standOf 5 = .ok (.iadd, 1) := by decide +kernel
theorem dX7_standOf_6 : decode cX7_standOf 6 = .ok (.istore_n 3, 1) := by decide +kernel
theorem dX7_standOf_7 : decode cX7_standOf 7 = .ok (.iload_n 2, 1) := by decide +kernel
theorem dX7_standOf_8 : decode cX7_standOf 8 = .ok (.ifCond .lt 29, 3) := by decide +kernel
theorem dX7_standOf_11 : decode cX7_standOf 11 = .ok (.iload_n 2, 1) := by decide +kernel
theorem dX7_standOf_12 : decode cX7_standOf 12 = .ok (.aload_n 0, 1) := by decide +kernel
theorem dX7_standOf_13 : decode cX7_standOf 13 = .ok (.iload_n 1, 1) := by decide +kernel
theorem dX7_standOf_14 : decode cX7_standOf 14 = .ok (.invokevirtual 25, 3) := by decide +kernel
theorem dX7_standOf_17 : decode cX7_standOf 17 = .ok (.if_icmp .ge 20, 3) := by decide +kernel
theorem dX7_standOf_20 : decode cX7_standOf 20 = .ok (.iload_n 3, 1) := by decide +kernel
theorem dX7_standOf_21 : decode cX7_standOf 21 = .ok (.ifCond .lt 16, 3) := by decide +kernel
theorem dX7_standOf_24 : decode cX7_standOf 24 = .ok (.iload_n 3, 1) := by decide +kernel
theorem dX7_standOf_25 : decode cX7_standOf 25 = .ok (.aload_n 0, 1) := by decide +kernel
theorem dX7_standOf_26 : decode cX7_standOf 26 = .ok (.getfield 9, 3) := by decide +kernel
theorem dX7_standOf_29 : decode cX7_standOf 29 = .ok (.arraylength, 1) := by decide +kernel
theorem dX7_standOf_30 : decode cX7_standOf 30 = .ok (.if_icmp .ge 7, 3) := by decide +kernel
theorem dX7_standOf_33 : decode cX7_standOf 33 = .ok (.iload_n 3, 1) := by decide +kernel
theorem dX7_standOf_34 : decode cX7_standOf 34 = .ok (.goto 4, 3) := by decide +kernel
theorem dX7_standOf_37 : decode cX7_standOf 37 = .ok (.iconst (-1), 1) := by decide +kernel
theorem dX7_standOf_38 : decode cX7_standOf 38 = .ok (.ireturn, 1) := by decide +kernel
theorem dX7_hasCell_0 : decode cX7_hasCell 0 = .ok (.aload_n 0, 1) := by decide +kernel
theorem dX7_hasCell_1 : decode cX7_hasCell 1 = .ok (.iload_n 1, 1) := by decide +kernel
theorem dX7_hasCell_2 : decode cX7_hasCell 2 = .ok (.iload_n 2, 1) := by decide +kernel
theorem dX7_hasCell_3 : decode cX7_hasCell 3 = .ok (.invokevirtual 28, 3) := by decide +kernel
theorem dX7_hasCell_6 : decode cX7_hasCell 6 = .ok (.ifCond .lt 7, 3) := by decide +kernel
theorem dX7_hasCell_9 : decode cX7_hasCell 9 = .ok (.iconst 1, 1) := by decide +kernel
theorem dX7_hasCell_10 : decode cX7_hasCell 10 = .ok (.goto 4, 3) := by decide +kernel
theorem dX7_hasCell_13 : decode cX7_hasCell 13 = .ok (.iconst 0, 1) := by decide +kernel
theorem dX7_hasCell_14 : decode cX7_hasCell 14 = .ok (.ireturn, 1) := by decide +kernel
theorem dX7_at_0 : decode cX7_at 0 = .ok (.aload_n 0, 1) := by decide +kernel
theorem dX7_at_1 : decode cX7_at 1 = .ok (.iload_n 1, 1) := by decide +kernel
theorem dX7_at_2 : decode cX7_at 2 = .ok (.iload_n 2, 1) := by decide +kernel
theorem dX7_at_3 : decode cX7_at 3 = .ok (.invokevirtual 28, 3) := by decide +kernel
theorem dX7_at_6 : decode cX7_at 6 = .ok (.istore_n 3, 1) := by decide +kernel
theorem dX7_at_7 : decode cX7_at 7 = .ok (.iload_n 3, 1) := by decide +kernel
theorem dX7_at_8 : decode cX7_at 8 = .ok (.ifCond .ge 7, 3) := by decide +kernel
theorem dX7_at_11 : decode cX7_at 11 = .ok (.iconst 0, 1) := by decide +kernel
theorem dX7_at_12 : decode cX7_at 12 = .ok (.goto 9, 3) := by decide +kernel
theorem dX7_at_15 : decode cX7_at 15 = .ok (.aload_n 0, 1) := by decide +kernel
theorem dX7_at_16 : decode cX7_at 16 = .ok (.getfield 9, 3) := by decide +kernel
theorem dX7_at_19 : decode cX7_at 19 = .ok (.iload_n 3, 1) := by decide +kernel
theorem dX7_at_20 : decode cX7_at 20 = .ok (.iaload, 1) := by decide +kernel
theorem dX7_at_21 : decode cX7_at 21 = .ok (.ireturn, 1) := by decide +kernel
theorem dX7_set_0 : decode cX7_set 0 = .ok (.aload_n 0, 1) := by decide +kernel
theorem dX7_set_1 : decode cX7_set 1 = .ok (.iload_n 1, 1) := by decide +kernel
theorem dX7_set_2 : decode cX7_set 2 = .ok (.iload_n 2, 1) := by decide +kernel
theorem dX7_set_3 : decode cX7_set 3 = .ok (.invokevirtual 28, 3) := by decide +kernel
theorem dX7_set_6 : decode cX7_set 6 = .ok (.istore 4, 2) := by decide +kernel
theorem dX7_set_8 : decode cX7_set 8 = .ok (.iload 4, 2) := by decide +kernel
theorem dX7_set_10 : decode cX7_set 10 = .ok (.ifCond .lt 19, 3) := by decide +kernel
theorem dX7_set_13 : decode cX7_set 13 = .ok (.aload_n 0, 1) := by decide +kernel
theorem dX7_set_14 : decode cX7_set 14 = .ok (.getfield 9, 3) := by decide +kernel
theorem dX7_set_17 : decode cX7_set 17 = .ok (.iload 4, 2) := by decide +kernel
theorem dX7_set_19 : decode cX7_set 19 = .ok (.iload_n 3, 1) := by decide +kernel
theorem dX7_set_20 : decode cX7_set 20 = .ok (.aload_n 0, 1) := by decide +kernel
theorem dX7_set_21 : decode cX7_set 21 = .ok (.iload_n 1, 1) := by decide +kernel
theorem dX7_set_22 : decode cX7_set 22 = .ok (.invokevirtual 21, 3) := by decide +kernel
theorem dX7_set_25 : decode cX7_set 25 = .ok (.invokestatic 32, 3) := by decide +kernel
theorem dX7_set_28 : decode cX7_set 28 = .ok (.iastore, 1) := by decide +kernel
theorem dX7_set_29 : decode cX7_set 29 = .ok (.return_, 1) := by decide +kernel
theorem dX7_cut_0 : decode cX7_cut 0 = .ok (.iload_n 1, 1) := by decide +kernel
theorem dX7_cut_1 : decode cX7_cut 1 = .ok (.ifCond .ne 6, 3) := by decide +kernel
theorem dX7_cut_4 : decode cX7_cut 4 = .ok (.iload_n 0, 1) := by decide +kernel
theorem dX7_cut_5 : decode cX7_cut 5 = .ok (.i2b, 1) := by decide +kernel
theorem dX7_cut_6 : decode cX7_cut 6 = .ok (.ireturn, 1) := by decide +kernel
theorem dX7_cut_7 : decode cX7_cut 7 = .ok (.iload_n 1, 1) := by decide +kernel
theorem dX7_cut_8 : decode cX7_cut 8 = .ok (.iconst 1, 1) := by decide +kernel
theorem dX7_cut_9 : decode cX7_cut 9 = .ok (.if_icmp .ne 8, 3) := by decide +kernel
theorem dX7_cut_12 : decode cX7_cut 12 = .ok (.iload_n 0, 1) := by decide +kernel
theorem dX7_cut_13 : decode cX7_cut 13 = .ok (.i2s, 1) := by decide +kernel
theorem dX7_cut_14 : decode cX7_cut 14 = .ok (.goto 4, 3) := by decide +kernel
theorem dX7_cut_17 : decode cX7_cut 17 = .ok (.iload_n 0, 1) := by decide +kernel
theorem dX7_cut_18 : decode cX7_cut 18 = .ok (.ireturn, 1) := by decide +kernel
theorem dX7_clear_0 : decode cX7_clear 0 = .ok (.aload_n 0, 1) := by decide +kernel
theorem dX7_clear_1 : decode cX7_clear 1 = .ok (.iload_n 1, 1) := by decide +kernel
theorem dX7_clear_2 : decode cX7_clear 2 = .ok (.iconst (-1), 1) := by decide +kernel
theorem dX7_clear_3 : decode cX7_clear 3 = .ok (.iconst 0, 1) := by decide +kernel
theorem dX7_clear_4 : decode cX7_clear 4 = .ok (.invokevirtual 35, 3) := by decide +kernel
theorem dX7_clear_7 : decode cX7_clear 7 = .ok (.return_, 1) := by decide +kernel
theorem dX7_renew_0 : decode cX7_renew 0 = .ok (.iload_n 1, 1) := by decide +kernel
theorem dX7_renew_1 : decode cX7_renew 1 = .ok (.ifCond .lt 21, 3) := by decide +kernel
theorem dX7_renew_4 : decode cX7_renew 4 = .ok (.iload_n 1, 1) := by decide +kernel
theorem dX7_renew_5 : decode cX7_renew 5 = .ok (.aload_n 0, 1) := by decide +kernel
theorem dX7_renew_6 : decode cX7_renew 6 = .ok (.getfield 15, 3) := by decide +kernel
theorem dX7_renew_9 : decode cX7_renew 9 = .ok (.arraylength, 1) := by decide +kernel
theorem dX7_renew_10 : decode cX7_renew 10 = .ok (.if_icmp .ge 12, 3) := by decide +kernel
theorem dX7_renew_13 : decode cX7_renew 13 = .ok (.iload_n 1, 1) := by decide +kernel
theorem dX7_renew_14 : decode cX7_renew 14 = .ok (.aload_n 0, 1) := by decide +kernel
theorem dX7_renew_15 : decode cX7_renew 15 = .ok (.getfield 18, 3) := by decide +kernel
theorem dX7_renew_18 : decode cX7_renew 18 = .ok (.arraylength, 1) := by decide +kernel
theorem dX7_renew_19 : decode cX7_renew 19 = .ok (.if_icmp .lt 4, 3) := by decide +kernel
theorem dX7_renew_22 : decode cX7_renew 22 = .ok (.return_, 1) := by decide +kernel
theorem dX7_renew_23 : decode cX7_renew 23 = .ok (.aload_n 0, 1) := by decide +kernel
theorem dX7_renew_24 : decode cX7_renew 24 = .ok (.getfield 15, 3) := by decide +kernel
theorem dX7_renew_27 : decode cX7_renew 27 = .ok (.iload_n 1, 1) := by decide +kernel
theorem dX7_renew_28 : decode cX7_renew 28 = .ok (.iload_n 2, 1) := by decide +kernel
theorem dX7_renew_29 : decode cX7_renew 29 = .ok (.iastore, 1) := by decide +kernel
theorem dX7_renew_30 : decode cX7_renew 30 = .ok (.aload_n 0, 1) := by decide +kernel
theorem dX7_renew_31 : decode cX7_renew 31 = .ok (.getfield 18, 3) := by decide +kernel
theorem dX7_renew_34 : decode cX7_renew 34 = .ok (.iload_n 1, 1) := by decide +kernel
theorem dX7_renew_35 : decode cX7_renew 35 = .ok (.iload_n 3, 1) := by decide +kernel
theorem dX7_renew_36 : decode cX7_renew 36 = .ok (.iastore, 1) := by decide +kernel
theorem dX7_renew_37 : decode cX7_renew 37 = .ok (.iconst 0, 1) := by decide +kernel
theorem dX7_renew_38 : decode cX7_renew 38 = .ok (.istore 4, 2) := by decide +kernel
theorem dX7_renew_40 : decode cX7_renew 40 = .ok (.iload 4, 2) := by decide +kernel
theorem dX7_renew_42 : decode cX7_renew 42 = .ok (.iload_n 3, 1) := by decide +kernel
theorem dX7_renew_43 : decode cX7_renew 43 = .ok (.if_icmp .ge 17, 3) := by decide +kernel
theorem dX7_renew_46 : decode cX7_renew 46 = .ok (.aload_n 0, 1) := by decide +kernel
theorem dX7_renew_47 : decode cX7_renew 47 = .ok (.iload_n 1, 1) := by decide +kernel
theorem dX7_renew_48 : decode cX7_renew 48 = .ok (.iload 4, 2) := by decide +kernel
theorem dX7_renew_50 : decode cX7_renew 50 = .ok (.iconst 0, 1) := by decide +kernel
theorem dX7_renew_51 : decode cX7_renew 51 = .ok (.invokevirtual 39, 3) := by decide +kernel
theorem dX7_renew_54 : decode cX7_renew 54 = .ok (.iinc 4 1, 3) := by decide +kernel
theorem dX7_renew_57 : decode cX7_renew 57 = .ok (.goto (-17), 3) := by decide +kernel
theorem dX7_renew_60 : decode cX7_renew 60 = .ok (.return_, 1) := by decide +kernel
theorem dX7_move_0 : decode cX7_move 0 = .ok (.iload 5, 2) := by decide +kernel
theorem dX7_move_2 : decode cX7_move 2 = .ok (.ifCond .le 52, 3) := by decide +kernel
theorem dX7_move_5 : decode cX7_move 5 = .ok (.aload_n 0, 1) := by decide +kernel
theorem dX7_move_6 : decode cX7_move 6 = .ok (.iload_n 1, 1) := by decide +kernel
theorem dX7_move_7 : decode cX7_move 7 = .ok (.iload_n 2, 1) := by decide +kernel
theorem dX7_move_8 : decode cX7_move 8 = .ok (.iload 5, 2) := by decide +kernel
theorem dX7_move_10 : decode cX7_move 10 = .ok (.invokevirtual 42, 3) := by decide +kernel
theorem dX7_move_13 : decode cX7_move 13 = .ok (.ifCond .eq 41, 3) := by decide +kernel
theorem dX7_move_16 : decode cX7_move 16 = .ok (.aload_n 0, 1) := by decide +kernel
theorem dX7_move_17 : decode cX7_move 17 = .ok (.iload_n 3, 1) := by decide +kernel
theorem dX7_move_18 : decode cX7_move 18 = .ok (.iload 4, 2) := by decide +kernel
theorem dX7_move_20 : decode cX7_move 20 = .ok (.iload 5, 2) := by decide +kernel
theorem dX7_move_22 : decode cX7_move 22 = .ok (.invokevirtual 42, 3) := by decide +kernel
theorem dX7_move_25 : decode cX7_move 25 = .ok (.ifCond .eq 29, 3) := by decide +kernel
theorem dX7_move_28 : decode cX7_move 28 = .ok (.aload_n 0, 1) := by decide +kernel
theorem dX7_move_29 : decode cX7_move 29 = .ok (.getfield 9, 3) := by decide +kernel
theorem dX7_move_32 : decode cX7_move 32 = .ok (.iload_n 1, 1) := by decide +kernel
theorem dX7_move_33 : decode cX7_move 33 = .ok (.bipush 100, 2) := by decide +kernel
theorem dX7_move_35 : decode cX7_move 35 = .ok (.imul, 1) := by decide +kernel
theorem dX7_move_36 : decode cX7_move 36 = .ok (.iload_n 2, 1) := by decide +kernel
theorem dX7_move_37 : decode cX7_move 37 = .ok (.iadd, 1) := by decide +kernel
theorem dX7_move_38 : decode cX7_move 38 = .ok (.aload_n 0, 1) := by decide +kernel
theorem dX7_move_39 : decode cX7_move 39 = .ok (.getfield 9, 3) := by decide +kernel
theorem dX7_move_42 : decode cX7_move 42 = .ok (.iload_n 3, 1) := by decide +kernel
theorem dX7_move_43 : decode cX7_move 43 = .ok (.bipush 100, 2) := by decide +kernel
theorem dX7_move_45 : decode cX7_move 45 = .ok (.imul, 1) := by decide +kernel
theorem dX7_move_46 : decode cX7_move 46 = .ok (.iload 4, 2) := by decide +kernel
theorem dX7_move_48 : decode cX7_move 48 = .ok (.iadd, 1) := by decide +kernel
theorem dX7_move_49 : decode cX7_move 49 = .ok (.iload 5, 2) := by decide +kernel
theorem dX7_move_51 : decode cX7_move 51 = .ok (.invokestatic 46, 3) := by decide +kernel
theorem dX7_move_54 : decode cX7_move 54 = .ok (.return_, 1) := by decide +kernel
theorem dX8_init_0 : decode cX8_init 0 = .ok (.aload_n 0, 1) := by decide +kernel
theorem dX8_init_1 : decode cX8_init 1 = .ok (.invokespecial 1, 3) := by decide +kernel
theorem dX8_init_4 : decode cX8_init 4 = .ok (.aload_n 0, 1) := by decide +kernel
theorem dX8_init_5 : decode cX8_init 5 = .ok (.iconst 0, 1) := by decide +kernel
theorem dX8_init_6 : decode cX8_init 6 = .ok (.putfield 7, 3) := by decide +kernel
theorem dX8_init_9 : decode cX8_init 9 = .ok (.return_, 1) := by decide +kernel
theorem dX8_leave_0 : decode cX8_leave 0 = .ok (.aload_n 0, 1) := by decide +kernel
theorem dX8_leave_1 : decode cX8_leave 1 = .ok (.bipush 31, 2) := by decide +kernel
theorem dX8_leave_3 : decode cX8_leave 3 = .ok (.aload_n 0, 1) := by decide +kernel
theorem dX8_leave_4 : decode cX8_leave 4 = .ok (.getfield 7, 3) := by decide +kernel
theorem dX8_leave_7 : decode cX8_leave 7 = .ok (.imul, 1) := by decide +kernel
theorem dX8_leave_8 : decode cX8_leave 8 = .ok (.iload_n 1, 1) := by decide +kernel
theorem dX8_leave_9 : decode cX8_leave 9 = .ok (.iadd, 1) := by decide +kernel
theorem dX8_leave_10 : decode cX8_leave 10 = .ok (.putfield 7, 3) := by decide +kernel
theorem dX8_leave_13 : decode cX8_leave 13 = .ok (.return_, 1) := by decide +kernel
theorem dX8_left_0 : decode cX8_left 0 = .ok (.aload_n 0, 1) := by decide +kernel
theorem dX8_left_1 : decode cX8_left 1 = .ok (.getfield 7, 3) := by decide +kernel
theorem dX8_left_4 : decode cX8_left 4 = .ok (.ireturn, 1) := by decide +kernel
theorem dX9_init_0 : decode cX9_init 0 = .ok (.aload_n 0, 1) := by decide +kernel
theorem dX9_init_1 : decode cX9_init 1 = .ok (.invokespecial 3, 3) := by decide +kernel
theorem dX9_init_4 : decode cX9_init 4 = .ok (.aload_n 0, 1) := by decide +kernel
theorem dX9_init_5 : decode cX9_init 5 = .ok (.new 9, 3) := by decide +kernel
theorem dX9_init_8 : decode cX9_init 8 = .ok (.dup, 1) := by decide +kernel
theorem dX9_init_9 : decode cX9_init 9 = .ok (.invokespecial 11, 3) := by decide +kernel
theorem dX9_init_12 : decode cX9_init 12 = .ok (.putfield 12, 3) := by decide +kernel
theorem dX9_init_15 : decode cX9_init 15 = .ok (.aload_n 0, 1) := by decide +kernel
theorem dX9_init_16 : decode cX9_init 16 = .ok (.new 18, 3) := by decide +kernel
theorem dX9_init_19 : decode cX9_init 19 = .ok (.dup, 1) := by decide +kernel
theorem dX9_init_20 : decode cX9_init 20 = .ok (.invokespecial 20, 3) := by decide +kernel
theorem dX9_init_23 : decode cX9_init 23 = .ok (.putfield 21, 3) := by decide +kernel
theorem dX9_init_26 : decode cX9_init 26 = .ok (.aload_n 0, 1) := by decide +kernel
theorem dX9_init_27 : decode cX9_init 27 = .ok (.new 25, 3) := by decide +kernel
theorem dX9_init_30 : decode cX9_init 30 = .ok (.dup, 1) := by decide +kernel
theorem dX9_init_31 : decode cX9_init 31 = .ok (.invokespecial 27, 3) := by decide +kernel
theorem dX9_init_34 : decode cX9_init 34 = .ok (.putfield 28, 3) := by decide +kernel
theorem dX9_init_37 : decode cX9_init 37 = .ok (.aload_n 0, 1) := by decide +kernel
theorem dX9_init_38 : decode cX9_init 38 = .ok (.new 32, 3) := by decide +kernel
theorem dX9_init_41 : decode cX9_init 41 = .ok (.dup, 1) := by decide +kernel
theorem dX9_init_42 : decode cX9_init 42 = .ok (.invokespecial 34, 3) := by decide +kernel
theorem dX9_init_45 : decode cX9_init 45 = .ok (.putfield 35, 3) := by decide +kernel
theorem dX9_init_48 : decode cX9_init 48 = .ok (.aload_n 0, 1) := by decide +kernel
theorem dX9_init_49 : decode cX9_init 49 = .ok (.new 39, 3) := by decide +kernel
theorem dX9_init_52 : decode cX9_init 52 = .ok (.dup, 1) := by decide +kernel
theorem dX9_init_53 : decode cX9_init 53 = .ok (.invokespecial 41, 3) := by decide +kernel
theorem dX9_init_56 : decode cX9_init 56 = .ok (.putfield 42, 3) := by decide +kernel
theorem dX9_init_59 : decode cX9_init 59 = .ok (.aload_n 0, 1) := by decide +kernel
theorem dX9_init_60 : decode cX9_init 60 = .ok (.new 39, 3) := by decide +kernel
theorem dX9_init_63 : decode cX9_init 63 = .ok (.dup, 1) := by decide +kernel
theorem dX9_init_64 : decode cX9_init 64 = .ok (.invokespecial 41, 3) := by decide +kernel
theorem dX9_init_67 : decode cX9_init 67 = .ok (.putfield 46, 3) := by decide +kernel
theorem dX9_init_70 : decode cX9_init 70 = .ok (.aload_n 0, 1) := by decide +kernel
theorem dX9_init_71 : decode cX9_init 71 = .ok (.new 49, 3) := by decide +kernel
theorem dX9_init_74 : decode cX9_init 74 = .ok (.dup, 1) := by decide +kernel
theorem dX9_init_75 : decode cX9_init 75 = .ok (.invokespecial 51, 3) := by decide +kernel
theorem dX9_init_78 : decode cX9_init 78 = .ok (.putfield 52, 3) := by decide +kernel
theorem dX9_init_81 : decode cX9_init 81 = .ok (.aload_n 0, 1) := by decide +kernel
theorem dX9_init_82 : decode cX9_init 82 = .ok (.iconst 0, 1) := by decide +kernel
theorem dX9_init_83 : decode cX9_init 83 = .ok (.putfield 56, 3) := by decide +kernel
theorem dX9_init_86 : decode cX9_init 86 = .ok (.return_, 1) := by decide +kernel
theorem dX9_roll_0 : decode cX9_roll 0 = .ok (.aload_n 0, 1) := by decide +kernel
theorem dX9_roll_1 : decode cX9_roll 1 = .ok (.iconst 0, 1) := by decide +kernel
theorem dX9_roll_2 : decode cX9_roll 2 = .ok (.iload_n 1, 1) := by decide +kernel
theorem dX9_roll_3 : decode cX9_roll 3 = .ok (.iconst 0, 1) := by decide +kernel
theorem dX9_roll_4 : decode cX9_roll 4 = .ok (.iload_n 2, 1) := by decide +kernel
theorem dX9_roll_5 : decode cX9_roll 5 = .ok (.iload_n 3, 1) := by decide +kernel
theorem dX9_roll_6 : decode cX9_roll 6 = .ok (.iload 4, 2) := by decide +kernel
theorem dX9_roll_8 : decode cX9_roll 8 = .ok (.invokevirtual 60, 3) := by decide +kernel
theorem dX9_roll_11 : decode cX9_roll 11 = .ok (.istore 5, 2) := by decide +kernel
theorem dX9_roll_13 : decode cX9_roll 13 = .ok (.iload 5, 2) := by decide +kernel
theorem dX9_roll_15 : decode cX9_roll 15 = .ok (.ifCond .ge 6, 3) := by decide +kernel
theorem dX9_roll_18 : decode cX9_roll 18 = .ok (.iload 5, 2) := by decide +kernel
theorem dX9_roll_20 : decode cX9_roll 20 = .ok (.ireturn, 1) := by decide +kernel
theorem dX9_roll_21 : decode cX9_roll 21 = .ok (.aload_n 0, 1) := by decide +kernel
theorem dX9_roll_22 : decode cX9_roll 22 = .ok (.getfield 21, 3) := by decide +kernel
theorem dX9_roll_25 : decode cX9_roll 25 = .ok (.aload_n 0, 1) := by decide +kernel
theorem dX9_roll_26 : decode cX9_roll 26 = .ok (.getfield 12, 3) := by decide +kernel
theorem dX9_roll_29 : decode cX9_roll 29 = .ok (.iload_n 1, 1) := by decide +kernel
theorem dX9_roll_30 : decode cX9_roll 30 = .ok (.iload_n 3, 1) := by decide +kernel
theorem dX9_roll_31 : decode cX9_roll 31 = .ok (.iload 4, 2) := by decide +kernel
theorem dX9_roll_33 : decode cX9_roll 33 = .ok (.invokevirtual 64, 3) := by decide +kernel
theorem dX9_roll_36 : decode cX9_roll 36 = .ok (.aload_n 0, 1) := by decide +kernel
theorem dX9_roll_37 : decode cX9_roll 37 = .ok (.getfield 21, 3) := by decide +kernel
theorem dX9_roll_40 : decode cX9_roll 40 = .ok (.invokevirtual 68, 3) := by decide +kernel
theorem dX9_roll_43 : decode cX9_roll 43 = .ok (.istore 6, 2) := by decide +kernel
theorem dX9_roll_45 : decode cX9_roll 45 = .ok (.iload 6, 2) := by decide +kernel
theorem dX9_roll_47 : decode cX9_roll 47 = .ok (.ifCond .lt 9, 3) := by decide +kernel
theorem dX9_roll_50 : decode cX9_roll 50 = .ok (.bipush (-100), 2) := by decide +kernel
theorem dX9_roll_52 : decode cX9_roll 52 = .ok (.iload 6, 2) := by decide +kernel
theorem dX9_roll_54 : decode cX9_roll 54 = .ok (.isub, 1) := by decide +kernel
theorem dX9_roll_55 : decode cX9_roll 55 = .ok (.ireturn, 1) := by decide +kernel
theorem dX9_roll_56 : decode cX9_roll 56 = .ok (.aload_n 0, 1) := by decide +kernel
theorem dX9_roll_57 : decode cX9_roll 57 = .ok (.getfield 28, 3) := by decide +kernel
theorem dX9_roll_60 : decode cX9_roll 60 = .ok (.aload_n 0, 1) := by decide +kernel
theorem dX9_roll_61 : decode cX9_roll 61 = .ok (.getfield 21, 3) := by decide +kernel
theorem dX9_roll_64 : decode cX9_roll 64 = .ok (.invokevirtual 72, 3) := by decide +kernel
theorem dX9_roll_67 : decode cX9_roll 67 = .ok (.aload_n 0, 1) := by decide +kernel
theorem dX9_roll_68 : decode cX9_roll 68 = .ok (.getfield 28, 3) := by decide +kernel
theorem dX9_roll_71 : decode cX9_roll 71 = .ok (.invokevirtual 76, 3) := by decide +kernel
theorem dX9_roll_74 : decode cX9_roll 74 = .ok (.ireturn, 1) := by decide +kernel
theorem dX9_ofOne_0 : decode cX9_ofOne 0 = .ok (.aload_n 0, 1) := by decide +kernel
theorem dX9_ofOne_1 : decode cX9_ofOne 1 = .ok (.getfield 28, 3) := by decide +kernel
theorem dX9_ofOne_4 : decode cX9_ofOne 4 = .ok (.iload_n 1, 1) := by decide +kernel
theorem dX9_ofOne_5 : decode cX9_ofOne 5 = .ok (.invokevirtual 79, 3) := by decide +kernel
theorem dX9_ofOne_8 : decode cX9_ofOne 8 = .ok (.astore_n 3, 1) := by decide +kernel
theorem dX9_ofOne_9 : decode cX9_ofOne 9 = .ok (.aload_n 3, 1) := by decide +kernel
theorem dX9_ofOne_10 : decode cX9_ofOne 10 = .ok (.ifnonnull 5, 3) := by decide +kernel
theorem dX9_ofOne_13 : decode cX9_ofOne 13 = .ok (.iconst (-1), 1) := by decide +kernel
theorem dX9_ofOne_14 : decode cX9_ofOne 14 = .ok (.ireturn, 1) := by decide +kernel
theorem dX9_ofOne_15 : decode cX9_ofOne 15 = .ok (.iload_n 2, 1) := by decide +kernel
theorem dX9_ofOne_16 : decode cX9_ofOne 16 = .ok (.ifCond .lt 8, 3) := by decide +kernel
theorem dX9_ofOne_19 : decode cX9_ofOne 19 = .ok (.iload_n 2, 1) := by decide +kernel
theorem dX9_ofOne_20 : decode cX9_ofOne 20 = .ok (.iconst 5, 1) := by decide +kernel
theorem dX9_ofOne_21 : decode cX9_ofOne 21 = .ok (.if_icmp .lt 8, 3) := by decide +kernel
theorem dX9_ofOne_24 : decode cX9_ofOne 24 = .ok (.bipush (-2), 2) := by decide +kernel
theorem dX9_ofOne_26 : decode cX9_ofOne 26 = .ok (.goto 8, 3) := by decide +kernel
theorem dX9_ofOne_29 : decode cX9_ofOne 29 = .ok (.aload_n 3, 1) := by decide +kernel
theorem dX9_ofOne_30 : decode cX9_ofOne 30 = .ok (.iload_n 2, 1) := by decide +kernel
theorem dX9_ofOne_31 : decode cX9_ofOne 31 = .ok (.invokevirtual 83, 3) := by decide +kernel
theorem dX9_ofOne_34 : decode cX9_ofOne 34 = .ok (.ireturn, 1) := by decide +kernel
theorem dX9_lives_0 : decode cX9_lives 0 = .ok (.aload_n 0, 1) := by decide +kernel
theorem dX9_lives_1 : decode cX9_lives 1 = .ok (.getfield 28, 3) := by decide +kernel
theorem dX9_lives_4 : decode cX9_lives 4 = .ok (.iload_n 1, 1) := by decide +kernel
theorem dX9_lives_5 : decode cX9_lives 5 = .ok (.invokevirtual 79, 3) := by decide +kernel
theorem dX9_lives_8 : decode cX9_lives 8 = .ok (.astore 4, 2) := by decide +kernel
theorem dX9_lives_10 : decode cX9_lives 10 = .ok (.aload 4, 2) := by decide +kernel
theorem dX9_lives_12 : decode cX9_lives 12 = .ok (.ifnull 10, 3) := by decide +kernel
theorem dX9_lives_15 : decode cX9_lives 15 = .ok (.iload_n 2, 1) := by decide +kernel
theorem dX9_lives_16 : decode cX9_lives 16 = .ok (.invokestatic 89, 3) := by decide +kernel
theorem dX9_lives_19 : decode cX9_lives 19 = .ok (.ifCond .ne 5, 3) := by decide +kernel
theorem dX9_lives_22 : decode cX9_lives 22 = .ok (.iconst (-1), 1) := by decide +kernel
theorem dX9_lives_23 : decode cX9_lives 23 = .ok (.ireturn, 1) := by decide +kernel
theorem dX9_lives_24 : decode cX9_lives 24 = .ok (.iload_n 3, 1) := by decide +kernel
theorem dX9_lives_25 : decode cX9_lives 25 = .ok (.invokestatic 93, 3) := by decide +kernel
theorem dX9_lives_28 : decode cX9_lives 28 = .ok (.ifCond .ne 6, 3) := by decide +kernel
theorem dX9_lives_31 : decode cX9_lives 31 = .ok (.bipush (-2), 2) := by decide +kernel
theorem dX9_lives_33 : decode cX9_lives 33 = .ok (.ireturn, 1) := by decide +kernel
theorem dX9_lives_34 : decode cX9_lives 34 = .ok (.aload 4, 2) := by decide +kernel
theorem dX9_lives_36 : decode cX9_lives 36 = .ok (.iload_n 2, 1) := by decide +kernel
theorem dX9_lives_37 : decode cX9_lives 37 = .ok (.iload_n 3, 1) := by decide +kernel
theorem dX9_lives_38 : decode cX9_lives 38 = .ok (.invokevirtual 96, 3) := by decide +kernel
theorem dX9_lives_41 : decode cX9_lives 41 = .ok (.ifCond .eq 7, 3) := by decide +kernel
theorem dX9_lives_44 : decode cX9_lives 44 = .ok (.iconst 1, 1) := by decide +kernel
theorem dX9_lives_45 : decode cX9_lives 45 = .ok (.goto 4, 3) := by decide +kernel
theorem dX9_lives_48 : decode cX9_lives 48 = .ok (.iconst 0, 1) := by decide +kernel
theorem dX9_lives_49 : decode cX9_lives 49 = .ok (.ireturn, 1) := by decide +kernel
theorem dX9_word_0 : decode cX9_word 0 = .ok (.iload_n 2, 1) := by decide +kernel
theorem dX9_word_1 : decode cX9_word 1 = .ok (.invokestatic 89, 3) := by decide +kernel
theorem dX9_word_4 : decode cX9_word 4 = .ok (.ifCond .ne 5, 3) := by decide +kernel
theorem dX9_word_7 : decode cX9_word 7 = .ok (.iconst (-1), 1) := by decide +kernel
theorem dX9_word_8 : decode cX9_word 8 = .ok (.ireturn, 1) := by decide +kernel
theorem dX9_word_9 : decode cX9_word 9 = .ok (.iload_n 1, 1) := by decide +kernel
theorem dX9_word_10 : decode cX9_word 10 = .ok (.iconst 1, 1) := by decide +kernel
theorem dX9_word_11 : decode cX9_word 11 = .ok (.if_icmp .lt 16, 3) := by decide +kernel
theorem dX9_word_14 : decode cX9_word 14 = .ok (.iload_n 1, 1) := by decide +kernel
theorem dX9_word_15 : decode cX9_word 15 = .ok (.bipush 99, 2) := by decide +kernel
theorem dX9_word_17 : decode cX9_word 17 = .ok (.if_icmp .gt 10, 3) := by decide +kernel
theorem dX9_word_20 : decode cX9_word 20 = .ok (.iload_n 3, 1) := by decide +kernel
theorem dX9_word_21 : decode cX9_word 21 = .ok (.invokestatic 93, 3) := by decide +kernel
theorem dX9_word_24 : decode cX9_word 24 = .ok (.ifCond .ne 6, 3) := by decide +kernel
theorem dX9_word_27 : decode cX9_word 27 = .ok (.bipush (-2), 2) := by decide +kernel
theorem dX9_word_29 : decode cX9_word 29 = .ok (.ireturn, 1) := by decide +kernel
theorem dX9_word_30 : decode cX9_word 30 = .ok (.aload_n 0, 1) := by decide +kernel
theorem dX9_word_31 : decode cX9_word 31 = .ok (.getfield 28, 3) := by decide +kernel
theorem dX9_word_34 : decode cX9_word 34 = .ok (.iload_n 1, 1) := by decide +kernel
theorem dX9_word_35 : decode cX9_word 35 = .ok (.iload_n 2, 1) := by decide +kernel
theorem dX9_word_36 : decode cX9_word 36 = .ok (.iload_n 3, 1) := by decide +kernel
theorem dX9_word_37 : decode cX9_word 37 = .ok (.invokevirtual 100, 3) := by decide +kernel
theorem dX9_word_40 : decode cX9_word 40 = .ok (.ireturn, 1) := by decide +kernel
theorem dX9_sayable_0 : decode cX9_sayable 0 = .ok (.iload_n 1, 1) := by decide +kernel
theorem dX9_sayable_1 : decode cX9_sayable 1 = .ok (.invokestatic 89, 3) := by decide +kernel
theorem dX9_sayable_4 : decode cX9_sayable 4 = .ok (.ifCond .eq 8, 3) := by decide +kernel
theorem dX9_sayable_7 : decode cX9_sayable 7 = .ok (.iload_n 3, 1) := by decide +kernel
theorem dX9_sayable_8 : decode cX9_sayable 8 = .ok (.iconst (-1), 1) := by decide +kernel
theorem dX9_sayable_9 : decode cX9_sayable 9 = .ok (.if_icmp .ge 5, 3) := by decide +kernel
theorem dX9_sayable_12 : decode cX9_sayable 12 = .ok (.iconst (-1), 1) := by decide +kernel
theorem dX9_sayable_13 : decode cX9_sayable 13 = .ok (.ireturn, 1) := by decide +kernel
theorem dX9_sayable_14 : decode cX9_sayable 14 = .ok (.iload_n 2, 1) := by decide +kernel
theorem dX9_sayable_15 : decode cX9_sayable 15 = .ok (.invokestatic 93, 3) := by decide +kernel
theorem dX9_sayable_18 : decode cX9_sayable 18 = .ok (.ifCond .ne 6, 3) := by decide +kernel
theorem dX9_sayable_21 : decode cX9_sayable 21 = .ok (.bipush (-2), 2) := by decide +kernel
theorem dX9_sayable_23 : decode cX9_sayable 23 = .ok (.ireturn, 1) := by decide +kernel
theorem dX9_sayable_24 : decode cX9_sayable 24 = .ok (.iconst 0, 1) := by decide +kernel
theorem dX9_sayable_25 : decode cX9_sayable 25 = .ok (.istore 4, 2) := by decide +kernel
theorem dX9_sayable_27 : decode cX9_sayable 27 = .ok (.iconst 1, 1) := by decide +kernel
theorem dX9_sayable_28 : decode cX9_sayable 28 = .ok (.istore 5, 2) := by decide +kernel
theorem dX9_sayable_30 : decode cX9_sayable 30 = .ok (.iload 5, 2) := by decide +kernel
theorem dX9_sayable_32 : decode cX9_sayable 32 = .ok (.bipush 99, 2) := by decide +kernel
theorem dX9_sayable_34 : decode cX9_sayable 34 = .ok (.if_icmp .gt 37, 3) := by decide +kernel
theorem dX9_sayable_37 : decode cX9_sayable 37 = .ok (.aload_n 0, 1) := by decide +kernel
theorem dX9_sayable_38 : decode cX9_sayable 38 = .ok (.getfield 28, 3) := by decide +kernel
theorem dX9_sayable_41 : decode cX9_sayable 41 = .ok (.iload 5, 2) := by decide +kernel
theorem dX9_sayable_43 : decode cX9_sayable 43 = .ok (.iload_n 1, 1) := by decide +kernel
theorem dX9_sayable_44 : decode cX9_sayable 44 = .ok (.iload_n 2, 1) := by decide +kernel
theorem dX9_sayable_45 : decode cX9_sayable 45 = .ok (.invokevirtual 100, 3) := by decide +kernel
theorem dX9_sayable_48 : decode cX9_sayable 48 = .ok (.bipush (-9), 2) := by decide +kernel
theorem dX9_sayable_50 : decode cX9_sayable 50 = .ok (.if_icmp .eq 15, 3) := by decide +kernel
theorem dX9_sayable_53 : decode cX9_sayable 53 = .ok (.iload 4, 2) := by decide +kernel
theorem dX9_sayable_55 : decode cX9_sayable 55 = .ok (.iload_n 3, 1) := by decide +kernel
theorem dX9_sayable_56 : decode cX9_sayable 56 = .ok (.if_icmp .ne 6, 3) := by decide +kernel
theorem dX9_sayable_59 : decode cX9_sayable 59 = .ok (.iload 5, 2) := by decide +kernel
theorem dX9_sayable_61 : decode cX9_sayable 61 = .ok (.ireturn, 1) := by decide +kernel
theorem dX9_sayable_62 : decode cX9_sayable 62 = .ok (.iinc 4 1, 3) := by decide +kernel
theorem dX9_sayable_65 : decode cX9_sayable 65 = .ok (.iinc 5 1, 3) := by decide +kernel
theorem dX9_sayable_68 : decode cX9_sayable 68 = .ok (.goto (-38), 3) := by decide +kernel
theorem dX9_sayable_71 : decode cX9_sayable 71 = .ok (.iload_n 3, 1) := by decide +kernel
theorem dX9_sayable_72 : decode cX9_sayable 72 = .ok (.iconst (-1), 1) := by decide +kernel
theorem dX9_sayable_73 : decode cX9_sayable 73 = .ok (.if_icmp .ne 8, 3) := by decide +kernel
theorem dX9_sayable_76 : decode cX9_sayable 76 = .ok (.iload 4, 2) := by decide +kernel
theorem dX9_sayable_78 : decode cX9_sayable 78 = .ok (.goto 5, 3) := by decide +kernel
theorem dX9_sayable_81 : decode cX9_sayable 81 = .ok (.bipush (-9), 2) := by decide +kernel
theorem dX9_sayable_83 : decode cX9_sayable 83 = .ok (.ireturn, 1) := by decide +kernel
theorem dX9_means_0 : decode cX9_means 0 = .ok (.aload_n 0, 1) := by decide +kernel
theorem dX9_means_1 : decode cX9_means 1 = .ok (.iload_n 1, 1) := by decide +kernel
theorem dX9_means_2 : decode cX9_means 2 = .ok (.iload_n 3, 1) := by decide +kernel
theorem dX9_means_3 : decode cX9_means 3 = .ok (.iload_n 2, 1) := by decide +kernel
theorem dX9_means_4 : decode cX9_means 4 = .ok (.invokestatic 93, 3) := by decide +kernel
theorem dX9_means_7 : decode cX9_means 7 = .ok (.ifCond .ne 7, 3) := by decide +kernel
theorem dX9_means_10 : decode cX9_means 10 = .ok (.iconst 1, 1) := by decide +kernel
theorem dX9_means_11 : decode cX9_means 11 = .ok (.goto 4, 3) := by decide +kernel
theorem dX9_means_14 : decode cX9_means 14 = .ok (.iconst 0, 1) := by decide +kernel
theorem dX9_means_15 : decode cX9_means 15 = .ok (.iload 4, 2) := by decide +kernel
theorem dX9_means_17 : decode cX9_means 17 = .ok (.iload 5, 2) := by decide +kernel
theorem dX9_means_19 : decode cX9_means 19 = .ok (.iload 6, 2) := by decide +kernel
theorem dX9_means_21 : decode cX9_means 21 = .ok (.invokevirtual 104, 3) := by decide +kernel
theorem dX9_means_24 : decode cX9_means 24 = .ok (.istore 7, 2) := by decide +kernel
theorem dX9_means_26 : decode cX9_means 26 = .ok (.iload 7, 2) := by decide +kernel
theorem dX9_means_28 : decode cX9_means 28 = .ok (.ifCond .ge 8, 3) := by decide +kernel
theorem dX9_means_31 : decode cX9_means 31 = .ok (.iload 7, 2) := by decide +kernel
theorem dX9_means_33 : decode cX9_means 33 = .ok (.goto 14, 3) := by decide +kernel
theorem dX9_means_36 : decode cX9_means 36 = .ok (.aload_n 0, 1) := by decide +kernel
theorem dX9_means_37 : decode cX9_means 37 = .ok (.iload_n 3, 1) := by decide +kernel
theorem dX9_means_38 : decode cX9_means 38 = .ok (.iload 5, 2) := by decide +kernel
theorem dX9_means_40 : decode cX9_means 40 = .ok (.iload 6, 2) := by decide +kernel
theorem dX9_means_42 : decode cX9_means 42 = .ok (.iload_n 1, 1) := by decide +kernel
theorem dX9_means_43 : decode cX9_means 43 = .ok (.iload_n 2, 1) := by decide +kernel
theorem dX9_means_44 : decode cX9_means 44 = .ok (.invokevirtual 107, 3) := by decide +kernel
theorem dX9_means_47 : decode cX9_means 47 = .ok (.ireturn, 1) := by decide +kernel
theorem dX9_say_0 : decode cX9_say 0 = .ok (.iload_n 2, 1) := by decide +kernel
theorem dX9_say_1 : decode cX9_say 1 = .ok (.invokestatic 89, 3) := by decide +kernel
theorem dX9_say_4 : decode cX9_say 4 = .ok (.ifCond .eq 9, 3) := by decide +kernel
theorem dX9_say_7 : decode cX9_say 7 = .ok (.iload 4, 2) := by decide +kernel
theorem dX9_say_9 : decode cX9_say 9 = .ok (.iconst (-1), 1) := by decide +kernel
theorem dX9_say_10 : decode cX9_say 10 = .ok (.if_icmp .ge 5, 3) := by decide +kernel
theorem dX9_say_13 : decode cX9_say 13 = .ok (.iconst (-1), 1) := by decide +kernel
theorem dX9_say_14 : decode cX9_say 14 = .ok (.ireturn, 1) := by decide +kernel
theorem dX9_say_15 : decode cX9_say 15 = .ok (.iload_n 1, 1) := by decide +kernel
theorem dX9_say_16 : decode cX9_say 16 = .ok (.invokestatic 111, 3) := by decide +kernel
theorem dX9_say_19 : decode cX9_say 19 = .ok (.ifCond .eq 10, 3) := by decide +kernel
theorem dX9_say_22 : decode cX9_say 22 = .ok (.iload_n 3, 1) := by decide +kernel
theorem dX9_say_23 : decode cX9_say 23 = .ok (.invokestatic 93, 3) := by decide +kernel
theorem dX9_say_26 : decode cX9_say 26 = .ok (.ifCond .ne 6, 3) := by decide +kernel
theorem dX9_say_29 : decode cX9_say 29 = .ok (.bipush (-2), 2) := by decide +kernel
theorem dX9_say_31 : decode cX9_say 31 = .ok (.ireturn, 1) := by decide +kernel
theorem dX9_say_32 : decode cX9_say 32 = .ok (.aload_n 0, 1) := by decide +kernel
theorem dX9_say_33 : decode cX9_say 33 = .ok (.iload_n 1, 1) := by decide +kernel
theorem dX9_say_34 : decode cX9_say 34 = .ok (.iload_n 2, 1) := by decide +kernel
theorem dX9_say_35 : decode cX9_say 35 = .ok (.iload_n 3, 1) := by decide +kernel
theorem dX9_say_36 : decode cX9_say 36 = .ok (.invokevirtual 114, 3) := by decide +kernel
theorem dX9_say_39 : decode cX9_say 39 = .ok (.istore 5, 2) := by decide +kernel
theorem dX9_say_41 : decode cX9_say 41 = .ok (.iload 4, 2) := by decide +kernel
theorem dX9_say_43 : decode cX9_say 43 = .ok (.iconst (-1), 1) := by decide +kernel
theorem dX9_say_44 : decode cX9_say 44 = .ok (.if_icmp .eq 10, 3) := by decide +kernel
theorem dX9_say_47 : decode cX9_say 47 = .ok (.iload 5, 2) := by decide +kernel
theorem dX9_say_49 : decode cX9_say 49 = .ok (.bipush (-9), 2) := by decide +kernel
theorem dX9_say_51 : decode cX9_say 51 = .ok (.if_icmp .ne 6, 3) := by decide +kernel
theorem dX9_say_54 : decode cX9_say 54 = .ok (.iload 5, 2) := by decide +kernel
theorem dX9_say_56 : decode cX9_say 56 = .ok (.ireturn, 1) := by decide +kernel
theorem dX9_say_57 : decode cX9_say 57 = .ok (.iload 4, 2) := by decide +kernel
theorem dX9_say_59 : decode cX9_say 59 = .ok (.iload 5, 2) := by decide +kernel
theorem dX9_say_61 : decode cX9_say 61 = .ok (.if_icmp .ge 15, 3) := by decide +kernel
theorem dX9_say_64 : decode cX9_say 64 = .ok (.aload_n 0, 1) := by decide +kernel
theorem dX9_say_65 : decode cX9_say 65 = .ok (.iload 4, 2) := by decide +kernel
theorem dX9_say_67 : decode cX9_say 67 = .ok (.iload_n 1, 1) := by decide +kernel
theorem dX9_say_68 : decode cX9_say 68 = .ok (.iload_n 2, 1) := by decide +kernel
theorem dX9_say_69 : decode cX9_say 69 = .ok (.iload_n 3, 1) := by decide +kernel
theorem dX9_say_70 : decode cX9_say 70 = .ok (.invokevirtual 117, 3) := by decide +kernel
theorem dX9_say_73 : decode cX9_say 73 = .ok (.goto 5, 3) := by decide +kernel
theorem dX9_say_76 : decode cX9_say 76 = .ok (.bipush (-9), 2) := by decide +kernel
theorem dX9_say_78 : decode cX9_say 78 = .ok (.ireturn, 1) := by decide +kernel
theorem dX9_turned_0 : decode cX9_turned 0 = .ok (.aload_n 0, 1) := by decide +kernel
theorem dX9_turned_1 : decode cX9_turned 1 = .ok (.iload_n 1, 1) := by decide +kernel
theorem dX9_turned_2 : decode cX9_turned 2 = .ok (.iload 4, 2) := by decide +kernel
theorem dX9_turned_4 : decode cX9_turned 4 = .ok (.iload_n 2, 1) := by decide +kernel
theorem dX9_turned_5 : decode cX9_turned 5 = .ok (.invokestatic 93, 3) := by decide +kernel
theorem dX9_turned_8 : decode cX9_turned 8 = .ok (.ifCond .eq 10, 3) := by decide +kernel
theorem dX9_turned_11 : decode cX9_turned 11 = .ok (.iload_n 3, 1) := by decide +kernel
theorem dX9_turned_12 : decode cX9_turned 12 = .ok (.invokestatic 93, 3) := by decide +kernel
theorem dX9_turned_15 : decode cX9_turned 15 = .ok (.ifCond .ne 7, 3) := by decide +kernel
theorem dX9_turned_18 : decode cX9_turned 18 = .ok (.iconst 1, 1) := by decide +kernel
theorem dX9_turned_19 : decode cX9_turned 19 = .ok (.goto 4, 3) := by decide +kernel
theorem dX9_turned_22 : decode cX9_turned 22 = .ok (.iconst 0, 1) := by decide +kernel
theorem dX9_turned_23 : decode cX9_turned 23 = .ok (.iload 5, 2) := by decide +kernel
theorem dX9_turned_25 : decode cX9_turned 25 = .ok (.iload 6, 2) := by decide +kernel
theorem dX9_turned_27 : decode cX9_turned 27 = .ok (.iload 7, 2) := by decide +kernel
theorem dX9_turned_29 : decode cX9_turned 29 = .ok (.invokevirtual 104, 3) := by decide +kernel
theorem dX9_turned_32 : decode cX9_turned 32 = .ok (.istore 8, 2) := by decide +kernel
theorem dX9_turned_34 : decode cX9_turned 34 = .ok (.iload 8, 2) := by decide +kernel
theorem dX9_turned_36 : decode cX9_turned 36 = .ok (.ifCond .ge 6, 3) := by decide +kernel
theorem dX9_turned_39 : decode cX9_turned 39 = .ok (.iload 8, 2) := by decide +kernel
theorem dX9_turned_41 : decode cX9_turned 41 = .ok (.ireturn, 1) := by decide +kernel
theorem dX9_turned_42 : decode cX9_turned 42 = .ok (.aload_n 0, 1) := by decide +kernel
theorem dX9_turned_43 : decode cX9_turned 43 = .ok (.iload 4, 2) := by decide +kernel
theorem dX9_turned_45 : decode cX9_turned 45 = .ok (.iload 6, 2) := by decide +kernel
theorem dX9_turned_47 : decode cX9_turned 47 = .ok (.iload 7, 2) := by decide +kernel
theorem dX9_turned_49 : decode cX9_turned 49 = .ok (.iload_n 1, 1) := by decide +kernel
theorem dX9_turned_50 : decode cX9_turned 50 = .ok (.iload_n 2, 1) := by decide +kernel
theorem dX9_turned_51 : decode cX9_turned 51 = .ok (.invokevirtual 107, 3) := by decide +kernel
theorem dX9_turned_54 : decode cX9_turned 54 = .ok (.istore 9, 2) := by decide +kernel
theorem dX9_turned_56 : decode cX9_turned 56 = .ok (.iload 9, 2) := by decide +kernel
theorem dX9_turned_58 : decode cX9_turned 58 = .ok (.invokestatic 111, 3) := by decide +kernel
theorem dX9_turned_61 : decode cX9_turned 61 = .ok (.ifCond .eq 14, 3) := by decide +kernel
theorem dX9_turned_64 : decode cX9_turned 64 = .ok (.aload_n 0, 1) := by decide +kernel
theorem dX9_turned_65 : decode cX9_turned 65 = .ok (.iload 9, 2) := by decide +kernel
theorem dX9_turned_67 : decode cX9_turned 67 = .ok (.iload_n 1, 1) := by decide +kernel
theorem dX9_turned_68 : decode cX9_turned 68 = .ok (.iload_n 3, 1) := by decide +kernel
theorem dX9_turned_69 : decode cX9_turned 69 = .ok (.invokevirtual 114, 3) := by decide +kernel
theorem dX9_turned_72 : decode cX9_turned 72 = .ok (.goto 5, 3) := by decide +kernel
theorem dX9_turned_75 : decode cX9_turned 75 = .ok (.bipush (-9), 2) := by decide +kernel
theorem dX9_turned_77 : decode cX9_turned 77 = .ok (.ireturn, 1) := by decide +kernel
theorem dX9_child_0 : decode cX9_child 0 = .ok (.iload_n 2, 1) := by decide +kernel
theorem dX9_child_1 : decode cX9_child 1 = .ok (.invokestatic 93, 3) := by decide +kernel
theorem dX9_child_4 : decode cX9_child 4 = .ok (.ifCond .eq 21, 3) := by decide +kernel
theorem dX9_child_7 : decode cX9_child 7 = .ok (.iload_n 3, 1) := by decide +kernel
theorem dX9_child_8 : decode cX9_child 8 = .ok (.invokestatic 121, 3) := by decide +kernel
theorem dX9_child_11 : decode cX9_child 11 = .ok (.ifCond .eq 14, 3) := by decide +kernel
theorem dX9_child_14 : decode cX9_child 14 = .ok (.iload 8, 2) := by decide +kernel
theorem dX9_child_16 : decode cX9_child 16 = .ok (.ifCond .lt 9, 3) := by decide +kernel
theorem dX9_child_19 : decode cX9_child 19 = .ok (.iload 8, 2) := by decide +kernel
theorem dX9_child_21 : decode cX9_child 21 = .ok (.iconst 1, 1) := by decide +kernel
theorem dX9_child_22 : decode cX9_child 22 = .ok (.if_icmp .le 7, 3) := by decide +kernel
theorem dX9_child_25 : decode cX9_child 25 = .ok (.iconst 1, 1) := by decide +kernel
theorem dX9_child_26 : decode cX9_child 26 = .ok (.goto 4, 3) := by decide +kernel
theorem dX9_child_29 : decode cX9_child 29 = .ok (.iconst 0, 1) := by decide +kernel
theorem dX9_child_30 : decode cX9_child 30 = .ok (.istore 9, 2) := by decide +kernel
theorem dX9_child_32 : decode cX9_child 32 = .ok (.aload_n 0, 1) := by decide +kernel
theorem dX9_child_33 : decode cX9_child 33 = .ok (.iload_n 1, 1) := by decide +kernel
theorem dX9_child_34 : decode cX9_child 34 = .ok (.iload 4, 2) := by decide +kernel
theorem dX9_child_36 : decode cX9_child 36 = .ok (.iload 9, 2) := by decide +kernel
theorem dX9_child_38 : decode cX9_child 38 = .ok (.iload 5, 2) := by decide +kernel
theorem dX9_child_40 : decode cX9_child 40 = .ok (.iload 6, 2) := by decide +kernel
theorem dX9_child_42 : decode cX9_child 42 = .ok (.iload 7, 2) := by decide +kernel
theorem dX9_child_44 : decode cX9_child 44 = .ok (.invokevirtual 60, 3) := by decide +kernel
theorem dX9_child_47 : decode cX9_child 47 = .ok (.istore 10, 2) := by decide +kernel
theorem dX9_child_49 : decode cX9_child 49 = .ok (.iload 10, 2) := by decide +kernel
theorem dX9_child_51 : decode cX9_child 51 = .ok (.ifCond .ge 6, 3) := by decide +kernel
theorem dX9_child_54 : decode cX9_child 54 = .ok (.iload 10, 2) := by decide +kernel
theorem dX9_child_56 : decode cX9_child 56 = .ok (.ireturn, 1) := by decide +kernel
theorem dX9_child_57 : decode cX9_child 57 = .ok (.iload 7, 2) := by decide +kernel
theorem dX9_child_59 : decode cX9_child 59 = .ok (.bipush 12, 2) := by decide +kernel
theorem dX9_child_61 : decode cX9_child 61 = .ok (.if_icmp .gt 16, 3) := by decide +kernel
theorem dX9_child_64 : decode cX9_child 64 = .ok (.aload_n 0, 1) := by decide +kernel
theorem dX9_child_65 : decode cX9_child 65 = .ok (.iload 4, 2) := by decide +kernel
theorem dX9_child_67 : decode cX9_child 67 = .ok (.iload 6, 2) := by decide +kernel
theorem dX9_child_69 : decode cX9_child 69 = .ok (.iload 7, 2) := by decide +kernel
theorem dX9_child_71 : decode cX9_child 71 = .ok (.invokevirtual 124, 3) := by decide +kernel
theorem dX9_child_74 : decode cX9_child 74 = .ok (.ifCond .ne 6, 3) := by decide +kernel
theorem dX9_child_77 : decode cX9_child 77 = .ok (.bipush (-2), 2) := by decide +kernel
theorem dX9_child_79 : decode cX9_child 79 = .ok (.ireturn, 1) := by decide +kernel
theorem dX9_child_80 : decode cX9_child 80 = .ok (.aload_n 0, 1) := by decide +kernel
theorem dX9_child_81 : decode cX9_child 81 = .ok (.getfield 28, 3) := by decide +kernel
theorem dX9_child_84 : decode cX9_child 84 = .ok (.aload_n 0, 1) := by decide +kernel
