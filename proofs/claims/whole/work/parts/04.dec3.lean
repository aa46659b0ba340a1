theorem dX9_child_85 : decode cX9_child 85 = .ok (.getfield 42, 3) := by decide +kernel
theorem dX9_child_88 : decode cX9_child 88 = .ok (.iload_n 1, 1) := by decide +kernel
theorem dX9_child_89 : decode cX9_child 89 = .ok (.iload_n 2, 1) := by decide +kernel
theorem dX9_child_90 : decode cX9_child 90 = .ok (.iconst (-1), 1) := by decide +kernel
theorem dX9_child_91 : decode cX9_child 91 = .ok (.invokevirtual 128, 3) := by decide +kernel
theorem dX9_child_94 : decode cX9_child 94 = .ok (.bipush (-9), 2) := by decide +kernel
theorem dX9_child_96 : decode cX9_child 96 = .ok (.istore 11, 2) := by decide +kernel
theorem dX9_child_98 : decode cX9_child 98 = .ok (.iconst (-1), 1) := by decide +kernel
theorem dX9_child_99 : decode cX9_child 99 = .ok (.istore 12, 2) := by decide +kernel
theorem dX9_child_101 : decode cX9_child 101 = .ok (.iconst 1, 1) := by decide +kernel
theorem dX9_child_102 : decode cX9_child 102 = .ok (.istore 13, 2) := by decide +kernel
theorem dX9_child_104 : decode cX9_child 104 = .ok (.iload 13, 2) := by decide +kernel
theorem dX9_child_106 : decode cX9_child 106 = .ok (.bipush 99, 2) := by decide +kernel
theorem dX9_child_108 : decode cX9_child 108 = .ok (.if_icmp .gt 39, 3) := by decide +kernel
theorem dX9_child_111 : decode cX9_child 111 = .ok (.aload_n 0, 1) := by decide +kernel
theorem dX9_child_112 : decode cX9_child 112 = .ok (.iload 13, 2) := by decide +kernel
theorem dX9_child_114 : decode cX9_child 114 = .ok (.iload_n 3, 1) := by decide +kernel
theorem dX9_child_115 : decode cX9_child 115 = .ok (.iload 4, 2) := by decide +kernel
theorem dX9_child_117 : decode cX9_child 117 = .ok (.iload 6, 2) := by decide +kernel
theorem dX9_child_119 : decode cX9_child 119 = .ok (.iload 7, 2) := by decide +kernel
theorem dX9_child_121 : decode cX9_child 121 = .ok (.invokevirtual 132, 3) := by decide +kernel
theorem dX9_child_124 : decode cX9_child 124 = .ok (.istore 14, 2) := by decide +kernel
theorem dX9_child_126 : decode cX9_child 126 = .ok (.iload 14, 2) := by decide +kernel
theorem dX9_child_128 : decode cX9_child 128 = .ok (.iload 12, 2) := by decide +kernel
theorem dX9_child_130 : decode cX9_child 130 = .ok (.if_icmp .le 11, 3) := by decide +kernel
theorem dX9_child_133 : decode cX9_child 133 = .ok (.iload 14, 2) := by decide +kernel
theorem dX9_child_135 : decode cX9_child 135 = .ok (.istore 12, 2) := by decide +kernel
theorem dX9_child_137 : decode cX9_child 137 = .ok (.iload 13, 2) := by decide +kernel
theorem dX9_child_139 : decode cX9_child 139 = .ok (.istore 11, 2) := by decide +kernel
theorem dX9_child_141 : decode cX9_child 141 = .ok (.iinc 13 1, 3) := by decide +kernel
theorem dX9_child_144 : decode cX9_child 144 = .ok (.goto (-40), 3) := by decide +kernel
theorem dX9_child_147 : decode cX9_child 147 = .ok (.iload 8, 2) := by decide +kernel
theorem dX9_child_149 : decode cX9_child 149 = .ok (.ifCond .ne 8, 3) := by decide +kernel
theorem dX9_child_152 : decode cX9_child 152 = .ok (.iload 11, 2) := by decide +kernel
theorem dX9_child_154 : decode cX9_child 154 = .ok (.goto 5, 3) := by decide +kernel
theorem dX9_child_157 : decode cX9_child 157 = .ok (.iload 12, 2) := by decide +kernel
theorem dX9_child_159 : decode cX9_child 159 = .ok (.ireturn, 1) := by decide +kernel
theorem dX9_both_0 : decode cX9_both 0 = .ok (.iload_n 1, 1) := by decide +kernel
theorem dX9_both_1 : decode cX9_both 1 = .ok (.invokestatic 111, 3) := by decide +kernel
theorem dX9_both_4 : decode cX9_both 4 = .ok (.ifCond .eq 17, 3) := by decide +kernel
theorem dX9_both_7 : decode cX9_both 7 = .ok (.iload_n 2, 1) := by decide +kernel
theorem dX9_both_8 : decode cX9_both 8 = .ok (.invokestatic 121, 3) := by decide +kernel
theorem dX9_both_11 : decode cX9_both 11 = .ok (.ifCond .eq 10, 3) := by decide +kernel
theorem dX9_both_14 : decode cX9_both 14 = .ok (.iload_n 3, 1) := by decide +kernel
theorem dX9_both_15 : decode cX9_both 15 = .ok (.invokestatic 93, 3) := by decide +kernel
theorem dX9_both_18 : decode cX9_both 18 = .ok (.ifCond .ne 6, 3) := by decide +kernel
theorem dX9_both_21 : decode cX9_both 21 = .ok (.bipush (-2), 2) := by decide +kernel
theorem dX9_both_23 : decode cX9_both 23 = .ok (.ireturn, 1) := by decide +kernel
theorem dX9_both_24 : decode cX9_both 24 = .ok (.aload_n 0, 1) := by decide +kernel
theorem dX9_both_25 : decode cX9_both 25 = .ok (.getfield 28, 3) := by decide +kernel
theorem dX9_both_28 : decode cX9_both 28 = .ok (.aload_n 0, 1) := by decide +kernel
theorem dX9_both_29 : decode cX9_both 29 = .ok (.getfield 42, 3) := by decide +kernel
theorem dX9_both_32 : decode cX9_both 32 = .ok (.iconst 0, 1) := by decide +kernel
theorem dX9_both_33 : decode cX9_both 33 = .ok (.iload_n 3, 1) := by decide +kernel
theorem dX9_both_34 : decode cX9_both 34 = .ok (.iconst (-1), 1) := by decide +kernel
theorem dX9_both_35 : decode cX9_both 35 = .ok (.invokevirtual 128, 3) := by decide +kernel
theorem dX9_both_38 : decode cX9_both 38 = .ok (.aload_n 0, 1) := by decide +kernel
theorem dX9_both_39 : decode cX9_both 39 = .ok (.getfield 28, 3) := by decide +kernel
theorem dX9_both_42 : decode cX9_both 42 = .ok (.aload_n 0, 1) := by decide +kernel
theorem dX9_both_43 : decode cX9_both 43 = .ok (.getfield 46, 3) := by decide +kernel
theorem dX9_both_46 : decode cX9_both 46 = .ok (.iconst 1, 1) := by decide +kernel
theorem dX9_both_47 : decode cX9_both 47 = .ok (.iload_n 3, 1) := by decide +kernel
theorem dX9_both_48 : decode cX9_both 48 = .ok (.iconst (-1), 1) := by decide +kernel
theorem dX9_both_49 : decode cX9_both 49 = .ok (.invokevirtual 128, 3) := by decide +kernel
theorem dX9_both_52 : decode cX9_both 52 = .ok (.iload_n 1, 1) := by decide +kernel
theorem dX9_both_53 : decode cX9_both 53 = .ok (.istore 4, 2) := by decide +kernel
theorem dX9_both_55 : decode cX9_both 55 = .ok (.iload 4, 2) := by decide +kernel
theorem dX9_both_57 : decode cX9_both 57 = .ok (.sipush 1000, 3) := by decide +kernel
theorem dX9_both_60 : decode cX9_both 60 = .ok (.if_icmp .ge 38, 3) := by decide +kernel
theorem dX9_both_63 : decode cX9_both 63 = .ok (.aload_n 0, 1) := by decide +kernel
theorem dX9_both_64 : decode cX9_both 64 = .ok (.getfield 42, 3) := by decide +kernel
theorem dX9_both_67 : decode cX9_both 67 = .ok (.iload 4, 2) := by decide +kernel
theorem dX9_both_69 : decode cX9_both 69 = .ok (.iload_n 2, 1) := by decide +kernel
theorem dX9_both_70 : decode cX9_both 70 = .ok (.invokevirtual 135, 3) := by decide +kernel
theorem dX9_both_73 : decode cX9_both 73 = .ok (.ifCond .eq 19, 3) := by decide +kernel
theorem dX9_both_76 : decode cX9_both 76 = .ok (.aload_n 0, 1) := by decide +kernel
theorem dX9_both_77 : decode cX9_both 77 = .ok (.getfield 46, 3) := by decide +kernel
theorem dX9_both_80 : decode cX9_both 80 = .ok (.iload 4, 2) := by decide +kernel
theorem dX9_both_82 : decode cX9_both 82 = .ok (.iload_n 2, 1) := by decide +kernel
theorem dX9_both_83 : decode cX9_both 83 = .ok (.invokevirtual 135, 3) := by decide +kernel
theorem dX9_both_86 : decode cX9_both 86 = .ok (.ifCond .eq 6, 3) := by decide +kernel
theorem dX9_both_89 : decode cX9_both 89 = .ok (.iload 4, 2) := by decide +kernel
theorem dX9_both_91 : decode cX9_both 91 = .ok (.ireturn, 1) := by decide +kernel
theorem dX9_both_92 : decode cX9_both 92 = .ok (.iinc 4 1, 3) := by decide +kernel
theorem dX9_both_95 : decode cX9_both 95 = .ok (.goto (-40), 3) := by decide +kernel
theorem dX9_both_98 : decode cX9_both 98 = .ok (.bipush (-9), 2) := by decide +kernel
theorem dX9_both_100 : decode cX9_both 100 = .ok (.ireturn, 1) := by decide +kernel
theorem dX9_written_0 : decode cX9_written 0 = .ok (.aload_n 0, 1) := by decide +kernel
theorem dX9_written_1 : decode cX9_written 1 = .ok (.iload_n 1, 1) := by decide +kernel
theorem dX9_written_2 : decode cX9_written 2 = .ok (.iload_n 2, 1) := by decide +kernel
theorem dX9_written_3 : decode cX9_written 3 = .ok (.iload 6, 2) := by decide +kernel
theorem dX9_written_5 : decode cX9_written 5 = .ok (.ifCond .lt 9, 3) := by decide +kernel
theorem dX9_written_8 : decode cX9_written 8 = .ok (.iload 6, 2) := by decide +kernel
theorem dX9_written_10 : decode cX9_written 10 = .ok (.iconst 2, 1) := by decide +kernel
theorem dX9_written_11 : decode cX9_written 11 = .ok (.if_icmp .le 7, 3) := by decide +kernel
theorem dX9_written_14 : decode cX9_written 14 = .ok (.iconst 1, 1) := by decide +kernel
theorem dX9_written_15 : decode cX9_written 15 = .ok (.goto 4, 3) := by decide +kernel
theorem dX9_written_18 : decode cX9_written 18 = .ok (.iconst 0, 1) := by decide +kernel
theorem dX9_written_19 : decode cX9_written 19 = .ok (.iload_n 3, 1) := by decide +kernel
theorem dX9_written_20 : decode cX9_written 20 = .ok (.iload 4, 2) := by decide +kernel
theorem dX9_written_22 : decode cX9_written 22 = .ok (.iload 5, 2) := by decide +kernel
theorem dX9_written_24 : decode cX9_written 24 = .ok (.invokevirtual 104, 3) := by decide +kernel
theorem dX9_written_27 : decode cX9_written 27 = .ok (.istore 7, 2) := by decide +kernel
theorem dX9_written_29 : decode cX9_written 29 = .ok (.iload 7, 2) := by decide +kernel
theorem dX9_written_31 : decode cX9_written 31 = .ok (.ifCond .ge 6, 3) := by decide +kernel
theorem dX9_written_34 : decode cX9_written 34 = .ok (.iload 7, 2) := by decide +kernel
theorem dX9_written_36 : decode cX9_written 36 = .ok (.ireturn, 1) := by decide +kernel
theorem dX9_written_37 : decode cX9_written 37 = .ok (.iconst 0, 1) := by decide +kernel
theorem dX9_written_38 : decode cX9_written 38 = .ok (.istore 8, 2) := by decide +kernel
theorem dX9_written_40 : decode cX9_written 40 = .ok (.bipush (-9), 2) := by decide +kernel
theorem dX9_written_42 : decode cX9_written 42 = .ok (.istore 9, 2) := by decide +kernel
theorem dX9_written_44 : decode cX9_written 44 = .ok (.bipush (-9), 2) := by decide +kernel
theorem dX9_written_46 : decode cX9_written 46 = .ok (.istore 10, 2) := by decide +kernel
theorem dX9_written_48 : decode cX9_written 48 = .ok (.iconst 0, 1) := by decide +kernel
theorem dX9_written_49 : decode cX9_written 49 = .ok (.istore 11, 2) := by decide +kernel
theorem dX9_written_51 : decode cX9_written 51 = .ok (.iload 11, 2) := by decide +kernel
theorem dX9_written_53 : decode cX9_written 53 = .ok (.bipush 110, 2) := by decide +kernel
theorem dX9_written_55 : decode cX9_written 55 = .ok (.if_icmp .ge 47, 3) := by decide +kernel
theorem dX9_written_58 : decode cX9_written 58 = .ok (.aload_n 0, 1) := by decide +kernel
theorem dX9_written_59 : decode cX9_written 59 = .ok (.iload_n 2, 1) := by decide +kernel
theorem dX9_written_60 : decode cX9_written 60 = .ok (.iload 4, 2) := by decide +kernel
theorem dX9_written_62 : decode cX9_written 62 = .ok (.iload 5, 2) := by decide +kernel
theorem dX9_written_64 : decode cX9_written 64 = .ok (.iload_n 1, 1) := by decide +kernel
theorem dX9_written_65 : decode cX9_written 65 = .ok (.iload 11, 2) := by decide +kernel
theorem dX9_written_67 : decode cX9_written 67 = .ok (.invokevirtual 107, 3) := by decide +kernel
theorem dX9_written_70 : decode cX9_written 70 = .ok (.ifCond .lt 26, 3) := by decide +kernel
theorem dX9_written_73 : decode cX9_written 73 = .ok (.iinc 8 1, 3) := by decide +kernel
theorem dX9_written_76 : decode cX9_written 76 = .ok (.iload 9, 2) := by decide +kernel
theorem dX9_written_78 : decode cX9_written 78 = .ok (.bipush (-9), 2) := by decide +kernel
theorem dX9_written_80 : decode cX9_written 80 = .ok (.if_icmp .ne 8, 3) := by decide +kernel
theorem dX9_written_83 : decode cX9_written 83 = .ok (.iload 11, 2) := by decide +kernel
theorem dX9_written_85 : decode cX9_written 85 = .ok (.goto 5, 3) := by decide +kernel
theorem dX9_written_88 : decode cX9_written 88 = .ok (.iload 9, 2) := by decide +kernel
theorem dX9_written_90 : decode cX9_written 90 = .ok (.istore 9, 2) := by decide +kernel
theorem dX9_written_92 : decode cX9_written 92 = .ok (.iload 11, 2) := by decide +kernel
theorem dX9_written_94 : decode cX9_written 94 = .ok (.istore 10, 2) := by decide +kernel
theorem dX9_written_96 : decode cX9_written 96 = .ok (.iinc 11 1, 3) := by decide +kernel
theorem dX9_written_99 : decode cX9_written 99 = .ok (.goto (-48), 3) := by decide +kernel
theorem dX9_written_102 : decode cX9_written 102 = .ok (.iload 6, 2) := by decide +kernel
theorem dX9_written_104 : decode cX9_written 104 = .ok (.ifCond .ne 6, 3) := by decide +kernel
theorem dX9_written_107 : decode cX9_written 107 = .ok (.iload 8, 2) := by decide +kernel
theorem dX9_written_109 : decode cX9_written 109 = .ok (.ireturn, 1) := by decide +kernel
theorem dX9_written_110 : decode cX9_written 110 = .ok (.iload 6, 2) := by decide +kernel
theorem dX9_written_112 : decode cX9_written 112 = .ok (.iconst 1, 1) := by decide +kernel
theorem dX9_written_113 : decode cX9_written 113 = .ok (.if_icmp .ne 8, 3) := by decide +kernel
theorem dX9_written_116 : decode cX9_written 116 = .ok (.iload 9, 2) := by decide +kernel
theorem dX9_written_118 : decode cX9_written 118 = .ok (.goto 5, 3) := by decide +kernel
theorem dX9_written_121 : decode cX9_written 121 = .ok (.iload 10, 2) := by decide +kernel
theorem dX9_written_123 : decode cX9_written 123 = .ok (.ireturn, 1) := by decide +kernel
theorem dX9_lost_0 : decode cX9_lost 0 = .ok (.aload_n 0, 1) := by decide +kernel
theorem dX9_lost_1 : decode cX9_lost 1 = .ok (.getfield 28, 3) := by decide +kernel
theorem dX9_lost_4 : decode cX9_lost 4 = .ok (.iload_n 1, 1) := by decide +kernel
theorem dX9_lost_5 : decode cX9_lost 5 = .ok (.invokevirtual 79, 3) := by decide +kernel
theorem dX9_lost_8 : decode cX9_lost 8 = .ok (.ifnull 10, 3) := by decide +kernel
theorem dX9_lost_11 : decode cX9_lost 11 = .ok (.iload_n 2, 1) := by decide +kernel
theorem dX9_lost_12 : decode cX9_lost 12 = .ok (.invokestatic 89, 3) := by decide +kernel
theorem dX9_lost_15 : decode cX9_lost 15 = .ok (.ifCond .ne 5, 3) := by decide +kernel
theorem dX9_lost_18 : decode cX9_lost 18 = .ok (.iconst (-1), 1) := by decide +kernel
theorem dX9_lost_19 : decode cX9_lost 19 = .ok (.ireturn, 1) := by decide +kernel
theorem dX9_lost_20 : decode cX9_lost 20 = .ok (.iload_n 3, 1) := by decide +kernel
theorem dX9_lost_21 : decode cX9_lost 21 = .ok (.invokestatic 93, 3) := by decide +kernel
theorem dX9_lost_24 : decode cX9_lost 24 = .ok (.ifCond .eq 11, 3) := by decide +kernel
theorem dX9_lost_27 : decode cX9_lost 27 = .ok (.iload 4, 2) := by decide +kernel
theorem dX9_lost_29 : decode cX9_lost 29 = .ok (.invokestatic 121, 3) := by decide +kernel
theorem dX9_lost_32 : decode cX9_lost 32 = .ok (.ifCond .ne 6, 3) := by decide +kernel
theorem dX9_lost_35 : decode cX9_lost 35 = .ok (.bipush (-2), 2) := by decide +kernel
theorem dX9_lost_37 : decode cX9_lost 37 = .ok (.ireturn, 1) := by decide +kernel
theorem dX9_lost_38 : decode cX9_lost 38 = .ok (.aload_n 0, 1) := by decide +kernel
theorem dX9_lost_39 : decode cX9_lost 39 = .ok (.getfield 28, 3) := by decide +kernel
theorem dX9_lost_42 : decode cX9_lost 42 = .ok (.aload_n 0, 1) := by decide +kernel
theorem dX9_lost_43 : decode cX9_lost 43 = .ok (.getfield 42, 3) := by decide +kernel
theorem dX9_lost_46 : decode cX9_lost 46 = .ok (.iload_n 2, 1) := by decide +kernel
theorem dX9_lost_47 : decode cX9_lost 47 = .ok (.iload_n 3, 1) := by decide +kernel
theorem dX9_lost_48 : decode cX9_lost 48 = .ok (.iconst (-1), 1) := by decide +kernel
theorem dX9_lost_49 : decode cX9_lost 49 = .ok (.invokevirtual 128, 3) := by decide +kernel
theorem dX9_lost_52 : decode cX9_lost 52 = .ok (.aload_n 0, 1) := by decide +kernel
theorem dX9_lost_53 : decode cX9_lost 53 = .ok (.getfield 28, 3) := by decide +kernel
theorem dX9_lost_56 : decode cX9_lost 56 = .ok (.aload_n 0, 1) := by decide +kernel
theorem dX9_lost_57 : decode cX9_lost 57 = .ok (.getfield 46, 3) := by decide +kernel
theorem dX9_lost_60 : decode cX9_lost 60 = .ok (.iload_n 2, 1) := by decide +kernel
theorem dX9_lost_61 : decode cX9_lost 61 = .ok (.iload_n 3, 1) := by decide +kernel
theorem dX9_lost_62 : decode cX9_lost 62 = .ok (.iload_n 1, 1) := by decide +kernel
theorem dX9_lost_63 : decode cX9_lost 63 = .ok (.invokevirtual 128, 3) := by decide +kernel
theorem dX9_lost_66 : decode cX9_lost 66 = .ok (.iconst 0, 1) := by decide +kernel
theorem dX9_lost_67 : decode cX9_lost 67 = .ok (.istore 5, 2) := by decide +kernel
theorem dX9_lost_69 : decode cX9_lost 69 = .ok (.iconst 1, 1) := by decide +kernel
theorem dX9_lost_70 : decode cX9_lost 70 = .ok (.istore 6, 2) := by decide +kernel
theorem dX9_lost_72 : decode cX9_lost 72 = .ok (.iload 6, 2) := by decide +kernel
theorem dX9_lost_74 : decode cX9_lost 74 = .ok (.bipush 99, 2) := by decide +kernel
theorem dX9_lost_76 : decode cX9_lost 76 = .ok (.if_icmp .gt 40, 3) := by decide +kernel
theorem dX9_lost_79 : decode cX9_lost 79 = .ok (.aload_n 0, 1) := by decide +kernel
theorem dX9_lost_80 : decode cX9_lost 80 = .ok (.getfield 42, 3) := by decide +kernel
theorem dX9_lost_83 : decode cX9_lost 83 = .ok (.iload 6, 2) := by decide +kernel
theorem dX9_lost_85 : decode cX9_lost 85 = .ok (.iload 4, 2) := by decide +kernel
theorem dX9_lost_87 : decode cX9_lost 87 = .ok (.invokevirtual 135, 3) := by decide +kernel
theorem dX9_lost_90 : decode cX9_lost 90 = .ok (.ifCond .eq 20, 3) := by decide +kernel
theorem dX9_lost_93 : decode cX9_lost 93 = .ok (.aload_n 0, 1) := by decide +kernel
theorem dX9_lost_94 : decode cX9_lost 94 = .ok (.getfield 46, 3) := by decide +kernel
theorem dX9_lost_97 : decode cX9_lost 97 = .ok (.iload 6, 2) := by decide +kernel
theorem dX9_lost_99 : decode cX9_lost 99 = .ok (.iload 4, 2) := by decide +kernel
theorem dX9_lost_101 : decode cX9_lost 101 = .ok (.invokevirtual 135, 3) := by decide +kernel
theorem dX9_lost_104 : decode cX9_lost 104 = .ok (.ifCond .ne 6, 3) := by decide +kernel
theorem dX9_lost_107 : decode cX9_lost 107 = .ok (.iinc 5 1, 3) := by decide +kernel
theorem dX9_lost_110 : decode cX9_lost 110 = .ok (.iinc 6 1, 3) := by decide +kernel
theorem dX9_lost_113 : decode cX9_lost 113 = .ok (.goto (-41), 3) := by decide +kernel
theorem dX9_lost_116 : decode cX9_lost 116 = .ok (.iload 5, 2) := by decide +kernel
theorem dX9_lost_118 : decode cX9_lost 118 = .ok (.ireturn, 1) := by decide +kernel
theorem dX9_back_0 : decode cX9_back 0 = .ok (.iload_n 2, 1) := by decide +kernel
theorem dX9_back_1 : decode cX9_back 1 = .ok (.invokestatic 89, 3) := by decide +kernel
theorem dX9_back_4 : decode cX9_back 4 = .ok (.ifCond .eq 15, 3) := by decide +kernel
theorem dX9_back_7 : decode cX9_back 7 = .ok (.iload 5, 2) := by decide +kernel
theorem dX9_back_9 : decode cX9_back 9 = .ok (.iconst (-1), 1) := by decide +kernel
theorem dX9_back_10 : decode cX9_back 10 = .ok (.if_icmp .lt 9, 3) := by decide +kernel
theorem dX9_back_13 : decode cX9_back 13 = .ok (.iload 5, 2) := by decide +kernel
theorem dX9_back_15 : decode cX9_back 15 = .ok (.iconst 3, 1) := by decide +kernel
theorem dX9_back_16 : decode cX9_back 16 = .ok (.if_icmp .lt 5, 3) := by decide +kernel
theorem dX9_back_19 : decode cX9_back 19 = .ok (.iconst (-1), 1) := by decide +kernel
theorem dX9_back_20 : decode cX9_back 20 = .ok (.ireturn, 1) := by decide +kernel
theorem dX9_back_21 : decode cX9_back 21 = .ok (.iload_n 1, 1) := by decide +kernel
theorem dX9_back_22 : decode cX9_back 22 = .ok (.invokestatic 111, 3) := by decide +kernel
theorem dX9_back_25 : decode cX9_back 25 = .ok (.ifCond .eq 18, 3) := by decide +kernel
theorem dX9_back_28 : decode cX9_back 28 = .ok (.iload_n 3, 1) := by decide +kernel
theorem dX9_back_29 : decode cX9_back 29 = .ok (.invokestatic 93, 3) := by decide +kernel
theorem dX9_back_32 : decode cX9_back 32 = .ok (.ifCond .eq 11, 3) := by decide +kernel
theorem dX9_back_35 : decode cX9_back 35 = .ok (.iload 4, 2) := by decide +kernel
theorem dX9_back_37 : decode cX9_back 37 = .ok (.invokestatic 121, 3) := by decide +kernel
theorem dX9_back_40 : decode cX9_back 40 = .ok (.ifCond .ne 6, 3) := by decide +kernel
theorem dX9_back_43 : decode cX9_back 43 = .ok (.bipush (-2), 2) := by decide +kernel
theorem dX9_back_45 : decode cX9_back 45 = .ok (.ireturn, 1) := by decide +kernel
theorem dX9_back_46 : decode cX9_back 46 = .ok (.aload_n 0, 1) := by decide +kernel
theorem dX9_back_47 : decode cX9_back 47 = .ok (.getfield 28, 3) := by decide +kernel
theorem dX9_back_50 : decode cX9_back 50 = .ok (.aload_n 0, 1) := by decide +kernel
theorem dX9_back_51 : decode cX9_back 51 = .ok (.getfield 42, 3) := by decide +kernel
theorem dX9_back_54 : decode cX9_back 54 = .ok (.iload_n 2, 1) := by decide +kernel
theorem dX9_back_55 : decode cX9_back 55 = .ok (.iload_n 3, 1) := by decide +kernel
theorem dX9_back_56 : decode cX9_back 56 = .ok (.iconst (-1), 1) := by decide +kernel
theorem dX9_back_57 : decode cX9_back 57 = .ok (.invokevirtual 128, 3) := by decide +kernel
theorem dX9_back_60 : decode cX9_back 60 = .ok (.aload_n 0, 1) := by decide +kernel
theorem dX9_back_61 : decode cX9_back 61 = .ok (.getfield 52, 3) := by decide +kernel
theorem dX9_back_64 : decode cX9_back 64 = .ok (.aload_n 0, 1) := by decide +kernel
theorem dX9_back_65 : decode cX9_back 65 = .ok (.getfield 28, 3) := by decide +kernel
theorem dX9_back_68 : decode cX9_back 68 = .ok (.aload_n 0, 1) := by decide +kernel
theorem dX9_back_69 : decode cX9_back 69 = .ok (.getfield 42, 3) := by decide +kernel
theorem dX9_back_72 : decode cX9_back 72 = .ok (.iload_n 1, 1) := by decide +kernel
theorem dX9_back_73 : decode cX9_back 73 = .ok (.iload 4, 2) := by decide +kernel
theorem dX9_back_75 : decode cX9_back 75 = .ok (.invokevirtual 138, 3) := by decide +kernel
theorem dX9_back_78 : decode cX9_back 78 = .ok (.istore 6, 2) := by decide +kernel
theorem dX9_back_80 : decode cX9_back 80 = .ok (.iload 5, 2) := by decide +kernel
theorem dX9_back_82 : decode cX9_back 82 = .ok (.iconst (-1), 1) := by decide +kernel
theorem dX9_back_83 : decode cX9_back 83 = .ok (.if_icmp .eq 10, 3) := by decide +kernel
theorem dX9_back_86 : decode cX9_back 86 = .ok (.iload 6, 2) := by decide +kernel
theorem dX9_back_88 : decode cX9_back 88 = .ok (.bipush (-9), 2) := by decide +kernel
theorem dX9_back_90 : decode cX9_back 90 = .ok (.if_icmp .ne 6, 3) := by decide +kernel
theorem dX9_back_93 : decode cX9_back 93 = .ok (.iload 6, 2) := by decide +kernel
theorem dX9_back_95 : decode cX9_back 95 = .ok (.ireturn, 1) := by decide +kernel
theorem dX9_back_96 : decode cX9_back 96 = .ok (.iload 5, 2) := by decide +kernel
theorem dX9_back_98 : decode cX9_back 98 = .ok (.iload 6, 2) := by decide +kernel
theorem dX9_back_100 : decode cX9_back 100 = .ok (.if_icmp .ge 15, 3) := by decide +kernel
theorem dX9_back_103 : decode cX9_back 103 = .ok (.aload_n 0, 1) := by decide +kernel
theorem dX9_back_104 : decode cX9_back 104 = .ok (.getfield 52, 3) := by decide +kernel
theorem dX9_back_107 : decode cX9_back 107 = .ok (.iload 5, 2) := by decide +kernel
theorem dX9_back_109 : decode cX9_back 109 = .ok (.invokevirtual 142, 3) := by decide +kernel
theorem dX9_back_112 : decode cX9_back 112 = .ok (.goto 5, 3) := by decide +kernel
theorem dX9_back_115 : decode cX9_back 115 = .ok (.bipush (-9), 2) := by decide +kernel
theorem dX9_back_117 : decode cX9_back 117 = .ok (.ireturn, 1) := by decide +kernel
theorem dX9_told_0 : decode cX9_told 0 = .ok (.iload_n 1, 1) := by decide +kernel
theorem dX9_told_1 : decode cX9_told 1 = .ok (.invokestatic 89, 3) := by decide +kernel
theorem dX9_told_4 : decode cX9_told 4 = .ok (.ifCond .eq 28, 3) := by decide +kernel
theorem dX9_told_7 : decode cX9_told 7 = .ok (.iload_n 2, 1) := by decide +kernel
theorem dX9_told_8 : decode cX9_told 8 = .ok (.invokestatic 93, 3) := by decide +kernel
theorem dX9_told_11 : decode cX9_told 11 = .ok (.ifCond .eq 21, 3) := by decide +kernel
theorem dX9_told_14 : decode cX9_told 14 = .ok (.iload_n 3, 1) := by decide +kernel
theorem dX9_told_15 : decode cX9_told 15 = .ok (.invokestatic 121, 3) := by decide +kernel
theorem dX9_told_18 : decode cX9_told 18 = .ok (.ifCond .eq 14, 3) := by decide +kernel
theorem dX9_told_21 : decode cX9_told 21 = .ok (.iload 4, 2) := by decide +kernel
theorem dX9_told_23 : decode cX9_told 23 = .ok (.ifCond .lt 9, 3) := by decide +kernel
theorem dX9_told_26 : decode cX9_told 26 = .ok (.iload 4, 2) := by decide +kernel
theorem dX9_told_28 : decode cX9_told 28 = .ok (.iconst 1, 1) := by decide +kernel
theorem dX9_told_29 : decode cX9_told 29 = .ok (.if_icmp .le 7, 3) := by decide +kernel
theorem dX9_told_32 : decode cX9_told 32 = .ok (.ldc2_w 145, 3) := by decide +kernel
theorem dX9_told_35 : decode cX9_told 35 = .ok (.lreturn, 1) := by decide +kernel
theorem dX9_told_36 : decode cX9_told 36 = .ok (.aload_n 0, 1) := by decide +kernel
theorem dX9_told_37 : decode cX9_told 37 = .ok (.getfield 28, 3) := by decide +kernel
theorem dX9_told_40 : decode cX9_told 40 = .ok (.aload_n 0, 1) := by decide +kernel
theorem dX9_told_41 : decode cX9_told 41 = .ok (.getfield 42, 3) := by decide +kernel
theorem dX9_told_44 : decode cX9_told 44 = .ok (.iload_n 1, 1) := by decide +kernel
theorem dX9_told_45 : decode cX9_told 45 = .ok (.iload_n 2, 1) := by decide +kernel
theorem dX9_told_46 : decode cX9_told 46 = .ok (.iconst (-1), 1) := by decide +kernel
theorem dX9_told_47 : decode cX9_told 47 = .ok (.invokevirtual 128, 3) := by decide +kernel
theorem dX9_told_50 : decode cX9_told 50 = .ok (.iconst 0, 1) := by decide +kernel
theorem dX9_told_51 : decode cX9_told 51 = .ok (.istore 5, 2) := by decide +kernel
theorem dX9_told_53 : decode cX9_told 53 = .ok (.iconst 1, 1) := by decide +kernel
theorem dX9_told_54 : decode cX9_told 54 = .ok (.istore 6, 2) := by decide +kernel
theorem dX9_told_56 : decode cX9_told 56 = .ok (.iload 6, 2) := by decide +kernel
theorem dX9_told_58 : decode cX9_told 58 = .ok (.bipush 99, 2) := by decide +kernel
theorem dX9_told_60 : decode cX9_told 60 = .ok (.if_icmp .gt 25, 3) := by decide +kernel
theorem dX9_told_63 : decode cX9_told 63 = .ok (.aload_n 0, 1) := by decide +kernel
theorem dX9_told_64 : decode cX9_told 64 = .ok (.getfield 42, 3) := by decide +kernel
theorem dX9_told_67 : decode cX9_told 67 = .ok (.iload 6, 2) := by decide +kernel
theorem dX9_told_69 : decode cX9_told 69 = .ok (.iload_n 3, 1) := by decide +kernel
theorem dX9_told_70 : decode cX9_told 70 = .ok (.invokevirtual 135, 3) := by decide +kernel
theorem dX9_told_73 : decode cX9_told 73 = .ok (.ifCond .eq 6, 3) := by decide +kernel
theorem dX9_told_76 : decode cX9_told 76 = .ok (.iinc 5 1, 3) := by decide +kernel
theorem dX9_told_79 : decode cX9_told 79 = .ok (.iinc 6 1, 3) := by decide +kernel
theorem dX9_told_82 : decode cX9_told 82 = .ok (.goto (-26), 3) := by decide +kernel
theorem dX9_told_85 : decode cX9_told 85 = .ok (.iload 4, 2) := by decide +kernel
theorem dX9_told_87 : decode cX9_told 87 = .ok (.ifCond .ne 14, 3) := by decide +kernel
theorem dX9_told_90 : decode cX9_told 90 = .ok (.iload 5, 2) := by decide +kernel
theorem dX9_told_92 : decode cX9_told 92 = .ok (.bipush 99, 2) := by decide +kernel
theorem dX9_told_94 : decode cX9_told 94 = .ok (.invokestatic 147, 3) := by decide +kernel
theorem dX9_told_97 : decode cX9_told 97 = .ok (.i2l, 1) := by decide +kernel
theorem dX9_told_98 : decode cX9_told 98 = .ok (.goto 11, 3) := by decide +kernel
theorem dX9_told_101 : decode cX9_told 101 = .ok (.bipush 99, 2) := by decide +kernel
theorem dX9_told_103 : decode cX9_told 103 = .ok (.iload 5, 2) := by decide +kernel
theorem dX9_told_105 : decode cX9_told 105 = .ok (.invokestatic 147, 3) := by decide +kernel
theorem dX9_told_108 : decode cX9_told 108 = .ok (.i2l, 1) := by decide +kernel
theorem dX9_told_109 : decode cX9_told 109 = .ok (.lreturn, 1) := by decide +kernel
theorem dX9_sheet_0 : decode cX9_sheet 0 = .ok (.aload_n 0, 1) := by decide +kernel
theorem dX9_sheet_1 : decode cX9_sheet 1 = .ok (.iconst 0, 1) := by decide +kernel
theorem dX9_sheet_2 : decode cX9_sheet 2 = .ok (.putfield 56, 3) := by decide +kernel
theorem dX9_sheet_5 : decode cX9_sheet 5 = .ok (.iload_n 1, 1) := by decide +kernel
theorem dX9_sheet_6 : decode cX9_sheet 6 = .ok (.invokestatic 151, 3) := by decide +kernel
theorem dX9_sheet_9 : decode cX9_sheet 9 = .ok (.ifCond .ne 5, 3) := by decide +kernel
theorem dX9_sheet_12 : decode cX9_sheet 12 = .ok (.iconst (-1), 1) := by decide +kernel
theorem dX9_sheet_13 : decode cX9_sheet 13 = .ok (.ireturn, 1) := by decide +kernel
theorem dX9_sheet_14 : decode cX9_sheet 14 = .ok (.iload_n 2, 1) := by decide +kernel
theorem dX9_sheet_15 : decode cX9_sheet 15 = .ok (.invokestatic 154, 3) := by decide +kernel
theorem dX9_sheet_18 : decode cX9_sheet 18 = .ok (.ifCond .eq 9, 3) := by decide +kernel
theorem dX9_sheet_21 : decode cX9_sheet 21 = .ok (.iload_n 3, 1) := by decide +kernel
theorem dX9_sheet_22 : decode cX9_sheet 22 = .ok (.bipush 100, 2) := by decide +kernel
theorem dX9_sheet_24 : decode cX9_sheet 24 = .ok (.if_icmp .le 6, 3) := by decide +kernel
theorem dX9_sheet_27 : decode cX9_sheet 27 = .ok (.bipush (-2), 2) := by decide +kernel
theorem dX9_sheet_29 : decode cX9_sheet 29 = .ok (.ireturn, 1) := by decide +kernel
theorem dX9_sheet_30 : decode cX9_sheet 30 = .ok (.iload_n 3, 1) := by decide +kernel
theorem dX9_sheet_31 : decode cX9_sheet 31 = .ok (.ifCond .ge 9, 3) := by decide +kernel
theorem dX9_sheet_34 : decode cX9_sheet 34 = .ok (.aload_n 0, 1) := by decide +kernel
theorem dX9_sheet_35 : decode cX9_sheet 35 = .ok (.iconst 4, 1) := by decide +kernel
theorem dX9_sheet_36 : decode cX9_sheet 36 = .ok (.invokevirtual 157, 3) := by decide +kernel
theorem dX9_sheet_39 : decode cX9_sheet 39 = .ok (.ireturn, 1) := by decide +kernel
theorem dX9_sheet_40 : decode cX9_sheet 40 = .ok (.aload_n 0, 1) := by decide +kernel
theorem dX9_sheet_41 : decode cX9_sheet 41 = .ok (.getfield 12, 3) := by decide +kernel
theorem dX9_sheet_44 : decode cX9_sheet 44 = .ok (.iload_n 1, 1) := by decide +kernel
theorem dX9_sheet_45 : decode cX9_sheet 45 = .ok (.iload_n 2, 1) := by decide +kernel
theorem dX9_sheet_46 : decode cX9_sheet 46 = .ok (.iload_n 3, 1) := by decide +kernel
theorem dX9_sheet_47 : decode cX9_sheet 47 = .ok (.invokevirtual 160, 3) := by decide +kernel
theorem dX9_sheet_50 : decode cX9_sheet 50 = .ok (.iconst 1, 1) := by decide +kernel
theorem dX9_sheet_51 : decode cX9_sheet 51 = .ok (.ireturn, 1) := by decide +kernel
theorem dX9_lose_0 : decode cX9_lose 0 = .ok (.iload_n 1, 1) := by decide +kernel
theorem dX9_lose_1 : decode cX9_lose 1 = .ok (.invokestatic 151, 3) := by decide +kernel
theorem dX9_lose_4 : decode cX9_lose 4 = .ok (.ifCond .ne 5, 3) := by decide +kernel
theorem dX9_lose_7 : decode cX9_lose 7 = .ok (.iconst (-1), 1) := by decide +kernel
theorem dX9_lose_8 : decode cX9_lose 8 = .ok (.ireturn, 1) := by decide +kernel
theorem dX9_lose_9 : decode cX9_lose 9 = .ok (.aload_n 0, 1) := by decide +kernel
theorem dX9_lose_10 : decode cX9_lose 10 = .ok (.getfield 12, 3) := by decide +kernel
theorem dX9_lose_13 : decode cX9_lose 13 = .ok (.iload_n 1, 1) := by decide +kernel
theorem dX9_lose_14 : decode cX9_lose 14 = .ok (.invokevirtual 164, 3) := by decide +kernel
theorem dX9_lose_17 : decode cX9_lose 17 = .ok (.ifCond .ne 5, 3) := by decide +kernel
theorem dX9_lose_20 : decode cX9_lose 20 = .ok (.iconst 0, 1) := by decide +kernel
theorem dX9_lose_21 : decode cX9_lose 21 = .ok (.ireturn, 1) := by decide +kernel
theorem dX9_lose_22 : decode cX9_lose 22 = .ok (.aload_n 0, 1) := by decide +kernel
theorem dX9_lose_23 : decode cX9_lose 23 = .ok (.getfield 12, 3) := by decide +kernel
theorem dX9_lose_26 : decode cX9_lose 26 = .ok (.iload_n 1, 1) := by decide +kernel
theorem dX9_lose_27 : decode cX9_lose 27 = .ok (.invokevirtual 167, 3) := by decide +kernel
theorem dX9_lose_30 : decode cX9_lose 30 = .ok (.iconst 1, 1) := by decide +kernel
theorem dX9_lose_31 : decode cX9_lose 31 = .ok (.ireturn, 1) := by decide +kernel
theorem dX9_put_0 : decode cX9_put 0 = .ok (.aload_n 0, 1) := by decide +kernel
theorem dX9_put_1 : decode cX9_put 1 = .ok (.iconst 0, 1) := by decide +kernel
theorem dX9_put_2 : decode cX9_put 2 = .ok (.putfield 56, 3) := by decide +kernel
theorem dX9_put_5 : decode cX9_put 5 = .ok (.iload_n 1, 1) := by decide +kernel
theorem dX9_put_6 : decode cX9_put 6 = .ok (.invokestatic 151, 3) := by decide +kernel
theorem dX9_put_9 : decode cX9_put 9 = .ok (.ifCond .ne 5, 3) := by decide +kernel
theorem dX9_put_12 : decode cX9_put 12 = .ok (.iconst (-1), 1) := by decide +kernel
theorem dX9_put_13 : decode cX9_put 13 = .ok (.ireturn, 1) := by decide +kernel
theorem dX9_put_14 : decode cX9_put 14 = .ok (.aload_n 0, 1) := by decide +kernel
theorem dX9_put_15 : decode cX9_put 15 = .ok (.getfield 12, 3) := by decide +kernel
theorem dX9_put_18 : decode cX9_put 18 = .ok (.iload_n 1, 1) := by decide +kernel
theorem dX9_put_19 : decode cX9_put 19 = .ok (.invokevirtual 164, 3) := by decide +kernel
theorem dX9_put_22 : decode cX9_put 22 = .ok (.ifCond .ne 9, 3) := by decide +kernel
theorem dX9_put_25 : decode cX9_put 25 = .ok (.aload_n 0, 1) := by decide +kernel
theorem dX9_put_26 : decode cX9_put 26 = .ok (.iconst 1, 1) := by decide +kernel
theorem dX9_put_27 : decode cX9_put 27 = .ok (.invokevirtual 157, 3) := by decide +kernel
theorem dX9_put_30 : decode cX9_put 30 = .ok (.ireturn, 1) := by decide +kernel
theorem dX9_put_31 : decode cX9_put 31 = .ok (.aload_n 0, 1) := by decide +kernel
theorem dX9_put_32 : decode cX9_put 32 = .ok (.getfield 12, 3) := by decide +kernel
theorem dX9_put_35 : decode cX9_put 35 = .ok (.iload_n 1, 1) := by decide +kernel
theorem dX9_put_36 : decode cX9_put 36 = .ok (.iload_n 2, 1) := by decide +kernel
theorem dX9_put_37 : decode cX9_put 37 = .ok (.invokevirtual 171, 3) := by decide +kernel
theorem dX9_put_40 : decode cX9_put 40 = .ok (.ifCond .ne 9, 3) := by decide +kernel
theorem dX9_put_43 : decode cX9_put 43 = .ok (.aload_n 0, 1) := by decide +kernel
theorem dX9_put_44 : decode cX9_put 44 = .ok (.iconst 3, 1) := by decide +kernel
theorem dX9_put_45 : decode cX9_put 45 = .ok (.invokevirtual 157, 3) := by decide +kernel
theorem dX9_put_48 : decode cX9_put 48 = .ok (.ireturn, 1) := by decide +kernel
theorem dX9_put_49 : decode cX9_put 49 = .ok (.aload_n 0, 1) := by decide +kernel
theorem dX9_put_50 : decode cX9_put 50 = .ok (.getfield 12, 3) := by decide +kernel
theorem dX9_put_53 : decode cX9_put 53 = .ok (.iload_n 1, 1) := by decide +kernel
theorem dX9_put_54 : decode cX9_put 54 = .ok (.iload_n 2, 1) := by decide +kernel
theorem dX9_put_55 : decode cX9_put 55 = .ok (.iload_n 3, 1) := by decide +kernel
theorem dX9_put_56 : decode cX9_put 56 = .ok (.invokevirtual 174, 3) := by decide +kernel
theorem dX9_put_59 : decode cX9_put 59 = .ok (.iconst 1, 1) := by decide +kernel
theorem dX9_put_60 : decode cX9_put 60 = .ok (.ireturn, 1) := by decide +kernel
theorem dX9_cell_0 : decode cX9_cell 0 = .ok (.aload_n 0, 1) := by decide +kernel
theorem dX9_cell_1 : decode cX9_cell 1 = .ok (.iconst 0, 1) := by decide +kernel
theorem dX9_cell_2 : decode cX9_cell 2 = .ok (.putfield 56, 3) := by decide +kernel
theorem dX9_cell_5 : decode cX9_cell 5 = .ok (.iload_n 1, 1) := by decide +kernel
theorem dX9_cell_6 : decode cX9_cell 6 = .ok (.invokestatic 151, 3) := by decide +kernel
theorem dX9_cell_9 : decode cX9_cell 9 = .ok (.ifCond .eq 10, 3) := by decide +kernel
theorem dX9_cell_12 : decode cX9_cell 12 = .ok (.iload_n 3, 1) := by decide +kernel
theorem dX9_cell_13 : decode cX9_cell 13 = .ok (.invokestatic 154, 3) := by decide +kernel
theorem dX9_cell_16 : decode cX9_cell 16 = .ok (.ifCond .ne 7, 3) := by decide +kernel
theorem dX9_cell_19 : decode cX9_cell 19 = .ok (.ldc2_w 145, 3) := by decide +kernel
theorem dX9_cell_22 : decode cX9_cell 22 = .ok (.lreturn, 1) := by decide +kernel
theorem dX9_cell_23 : decode cX9_cell 23 = .ok (.aload_n 0, 1) := by decide +kernel
theorem dX9_cell_24 : decode cX9_cell 24 = .ok (.iload_n 1, 1) := by decide +kernel
theorem dX9_cell_25 : decode cX9_cell 25 = .ok (.iload_n 3, 1) := by decide +kernel
theorem dX9_cell_26 : decode cX9_cell 26 = .ok (.invokevirtual 177, 3) := by decide +kernel
theorem dX9_cell_29 : decode cX9_cell 29 = .ok (.istore 4, 2) := by decide +kernel
theorem dX9_cell_31 : decode cX9_cell 31 = .ok (.iload 4, 2) := by decide +kernel
theorem dX9_cell_33 : decode cX9_cell 33 = .ok (.ifCond .ne 18, 3) := by decide +kernel
theorem dX9_cell_36 : decode cX9_cell 36 = .ok (.aload_n 0, 1) := by decide +kernel
theorem dX9_cell_37 : decode cX9_cell 37 = .ok (.getfield 12, 3) := by decide +kernel
theorem dX9_cell_40 : decode cX9_cell 40 = .ok (.iload_n 1, 1) := by decide +kernel
theorem dX9_cell_41 : decode cX9_cell 41 = .ok (.iload_n 2, 1) := by decide +kernel
theorem dX9_cell_42 : decode cX9_cell 42 = .ok (.invokevirtual 171, 3) := by decide +kernel
theorem dX9_cell_45 : decode cX9_cell 45 = .ok (.ifCond .ne 6, 3) := by decide +kernel
theorem dX9_cell_48 : decode cX9_cell 48 = .ok (.iconst 3, 1) := by decide +kernel
theorem dX9_cell_49 : decode cX9_cell 49 = .ok (.istore 4, 2) := by decide +kernel
theorem dX9_cell_51 : decode cX9_cell 51 = .ok (.aload_n 0, 1) := by decide +kernel
theorem dX9_cell_52 : decode cX9_cell 52 = .ok (.iload 4, 2) := by decide +kernel
theorem dX9_cell_54 : decode cX9_cell 54 = .ok (.putfield 56, 3) := by decide +kernel
theorem dX9_cell_57 : decode cX9_cell 57 = .ok (.iload 4, 2) := by decide +kernel
theorem dX9_cell_59 : decode cX9_cell 59 = .ok (.ifCond .ne 16, 3) := by decide +kernel
theorem dX9_cell_62 : decode cX9_cell 62 = .ok (.aload_n 0, 1) := by decide +kernel
theorem dX9_cell_63 : decode cX9_cell 63 = .ok (.getfield 12, 3) := by decide +kernel
theorem dX9_cell_66 : decode cX9_cell 66 = .ok (.iload_n 1, 1) := by decide +kernel
theorem dX9_cell_67 : decode cX9_cell 67 = .ok (.iload_n 2, 1) := by decide +kernel
theorem dX9_cell_68 : decode cX9_cell 68 = .ok (.invokevirtual 180, 3) := by decide +kernel
theorem dX9_cell_71 : decode cX9_cell 71 = .ok (.i2l, 1) := by decide +kernel
theorem dX9_cell_72 : decode cX9_cell 72 = .ok (.goto 6, 3) := by decide +kernel
theorem dX9_cell_75 : decode cX9_cell 75 = .ok (.ldc2_w 145, 3) := by decide +kernel
theorem dX9_cell_78 : decode cX9_cell 78 = .ok (.lreturn, 1) := by decide +kernel
theorem dX9_copy_0 : decode cX9_copy 0 = .ok (.aload_n 0, 1) := by decide +kernel
theorem dX9_copy_1 : decode cX9_copy 1 = .ok (.iconst 0, 1) := by decide +kernel
theorem dX9_copy_2 : decode cX9_copy 2 = .ok (.putfield 56, 3) := by decide +kernel
theorem dX9_copy_5 : decode cX9_copy 5 = .ok (.iload_n 1, 1) := by decide +kernel
theorem dX9_copy_6 : decode cX9_copy 6 = .ok (.invokestatic 151, 3) := by decide +kernel
theorem dX9_copy_9 : decode cX9_copy 9 = .ok (.ifCond .eq 10, 3) := by decide +kernel
theorem dX9_copy_12 : decode cX9_copy 12 = .ok (.iload_n 3, 1) := by decide +kernel
theorem dX9_copy_13 : decode cX9_copy 13 = .ok (.invokestatic 151, 3) := by decide +kernel
theorem dX9_copy_16 : decode cX9_copy 16 = .ok (.ifCond .ne 5, 3) := by decide +kernel
theorem dX9_copy_19 : decode cX9_copy 19 = .ok (.iconst (-1), 1) := by decide +kernel
theorem dX9_copy_20 : decode cX9_copy 20 = .ok (.ireturn, 1) := by decide +kernel
theorem dX9_copy_21 : decode cX9_copy 21 = .ok (.aload_n 0, 1) := by decide +kernel
theorem dX9_copy_22 : decode cX9_copy 22 = .ok (.getfield 12, 3) := by decide +kernel
theorem dX9_copy_25 : decode cX9_copy 25 = .ok (.iload_n 1, 1) := by decide +kernel
theorem dX9_copy_26 : decode cX9_copy 26 = .ok (.invokevirtual 164, 3) := by decide +kernel
theorem dX9_copy_29 : decode cX9_copy 29 = .ok (.ifCond .eq 14, 3) := by decide +kernel
theorem dX9_copy_32 : decode cX9_copy 32 = .ok (.aload_n 0, 1) := by decide +kernel
theorem dX9_copy_33 : decode cX9_copy 33 = .ok (.getfield 12, 3) := by decide +kernel
theorem dX9_copy_36 : decode cX9_copy 36 = .ok (.iload_n 3, 1) := by decide +kernel
theorem dX9_copy_37 : decode cX9_copy 37 = .ok (.invokevirtual 164, 3) := by decide +kernel
theorem dX9_copy_40 : decode cX9_copy 40 = .ok (.ifCond .ne 9, 3) := by decide +kernel
theorem dX9_copy_43 : decode cX9_copy 43 = .ok (.aload_n 0, 1) := by decide +kernel
theorem dX9_copy_44 : decode cX9_copy 44 = .ok (.iconst 1, 1) := by decide +kernel
theorem dX9_copy_45 : decode cX9_copy 45 = .ok (.invokevirtual 157, 3) := by decide +kernel
theorem dX9_copy_48 : decode cX9_copy 48 = .ok (.ireturn, 1) := by decide +kernel
theorem dX9_copy_49 : decode cX9_copy 49 = .ok (.aload_n 0, 1) := by decide +kernel
theorem dX9_copy_50 : decode cX9_copy 50 = .ok (.getfield 12, 3) := by decide +kernel
theorem dX9_copy_53 : decode cX9_copy 53 = .ok (.iload_n 1, 1) := by decide +kernel
theorem dX9_copy_54 : decode cX9_copy 54 = .ok (.invokevirtual 183, 3) := by decide +kernel
theorem dX9_copy_57 : decode cX9_copy 57 = .ok (.aload_n 0, 1) := by decide +kernel
theorem dX9_copy_58 : decode cX9_copy 58 = .ok (.getfield 12, 3) := by decide +kernel
theorem dX9_copy_61 : decode cX9_copy 61 = .ok (.iload_n 3, 1) := by decide +kernel
theorem dX9_copy_62 : decode cX9_copy 62 = .ok (.invokevirtual 183, 3) := by decide +kernel
theorem dX9_copy_65 : decode cX9_copy 65 = .ok (.if_icmp .eq 9, 3) := by decide +kernel
theorem dX9_copy_68 : decode cX9_copy 68 = .ok (.aload_n 0, 1) := by decide +kernel
theorem dX9_copy_69 : decode cX9_copy 69 = .ok (.iconst 2, 1) := by decide +kernel
theorem dX9_copy_70 : decode cX9_copy 70 = .ok (.invokevirtual 157, 3) := by decide +kernel
theorem dX9_copy_73 : decode cX9_copy 73 = .ok (.ireturn, 1) := by decide +kernel
theorem dX9_copy_74 : decode cX9_copy 74 = .ok (.aload_n 0, 1) := by decide +kernel
theorem dX9_copy_75 : decode cX9_copy 75 = .ok (.getfield 12, 3) := by decide +kernel
theorem dX9_copy_78 : decode cX9_copy 78 = .ok (.iload_n 1, 1) := by decide +kernel
theorem dX9_copy_79 : decode cX9_copy 79 = .ok (.iload_n 2, 1) := by decide +kernel
theorem dX9_copy_80 : decode cX9_copy 80 = .ok (.iload 5, 2) := by decide +kernel
theorem dX9_copy_82 : decode cX9_copy 82 = .ok (.invokevirtual 186, 3) := by decide +kernel
theorem dX9_copy_85 : decode cX9_copy 85 = .ok (.ifCond .eq 18, 3) := by decide +kernel
theorem dX9_copy_88 : decode cX9_copy 88 = .ok (.aload_n 0, 1) := by decide +kernel
theorem dX9_copy_89 : decode cX9_copy 89 = .ok (.getfield 12, 3) := by decide +kernel
theorem dX9_copy_92 : decode cX9_copy 92 = .ok (.iload_n 3, 1) := by decide +kernel
theorem dX9_copy_93 : decode cX9_copy 93 = .ok (.iload 4, 2) := by decide +kernel
theorem dX9_copy_95 : decode cX9_copy 95 = .ok (.iload 5, 2) := by decide +kernel
theorem dX9_copy_97 : decode cX9_copy 97 = .ok (.invokevirtual 186, 3) := by decide +kernel
theorem dX9_copy_100 : decode cX9_copy 100 = .ok (.ifCond .ne 9, 3) := by decide +kernel
theorem dX9_copy_103 : decode cX9_copy 103 = .ok (.aload_n 0, 1) := by decide +kernel
theorem dX9_copy_104 : decode cX9_copy 104 = .ok (.iconst 3, 1) := by decide +kernel
theorem dX9_copy_105 : decode cX9_copy 105 = .ok (.invokevirtual 157, 3) := by decide +kernel
theorem dX9_copy_108 : decode cX9_copy 108 = .ok (.ireturn, 1) := by decide +kernel
theorem dX9_copy_109 : decode cX9_copy 109 = .ok (.aload_n 0, 1) := by decide +kernel
theorem dX9_copy_110 : decode cX9_copy 110 = .ok (.getfield 12, 3) := by decide +kernel
theorem dX9_copy_113 : decode cX9_copy 113 = .ok (.iload_n 1, 1) := by decide +kernel
theorem dX9_copy_114 : decode cX9_copy 114 = .ok (.iload_n 2, 1) := by decide +kernel
theorem dX9_copy_115 : decode cX9_copy 115 = .ok (.iload_n 3, 1) := by decide +kernel
theorem dX9_copy_116 : decode cX9_copy 116 = .ok (.iload 4, 2) := by decide +kernel
theorem dX9_copy_118 : decode cX9_copy 118 = .ok (.iload 5, 2) := by decide +kernel
theorem dX9_copy_120 : decode cX9_copy 120 = .ok (.invokevirtual 189, 3) := by decide +kernel
theorem dX9_copy_123 : decode cX9_copy 123 = .ok (.iload 5, 2) := by decide +kernel
theorem dX9_copy_125 : decode cX9_copy 125 = .ok (.ireturn, 1) := by decide +kernel
theorem dX9_tell_0 : decode cX9_tell 0 = .ok (.aload_n 0, 1) := by decide +kernel
theorem dX9_tell_1 : decode cX9_tell 1 = .ok (.getfield 28, 3) := by decide +kernel
theorem dX9_tell_4 : decode cX9_tell 4 = .ok (.iload_n 1, 1) := by decide +kernel
theorem dX9_tell_5 : decode cX9_tell 5 = .ok (.invokevirtual 79, 3) := by decide +kernel
theorem dX9_tell_8 : decode cX9_tell 8 = .ok (.astore_n 2, 1) := by decide +kernel
theorem dX9_tell_9 : decode cX9_tell 9 = .ok (.aload_n 2, 1) := by decide +kernel
theorem dX9_tell_10 : decode cX9_tell 10 = .ok (.ifnonnull 7, 3) := by decide +kernel
theorem dX9_tell_13 : decode cX9_tell 13 = .ok (.iconst (-1), 1) := by decide +kernel
theorem dX9_tell_14 : decode cX9_tell 14 = .ok (.goto 11, 3) := by decide +kernel
theorem dX9_tell_17 : decode cX9_tell 17 = .ok (.aload_n 2, 1) := by decide +kernel
theorem dX9_tell_18 : decode cX9_tell 18 = .ok (.aload_n 0, 1) := by decide +kernel
theorem dX9_tell_19 : decode cX9_tell 19 = .ok (.getfield 35, 3) := by decide +kernel
theorem dX9_tell_22 : decode cX9_tell 22 = .ok (.invokevirtual 193, 3) := by decide +kernel
theorem dX9_tell_25 : decode cX9_tell 25 = .ok (.ireturn, 1) := by decide +kernel
theorem dX9_mourn_0 : decode cX9_mourn 0 = .ok (.aload_n 0, 1) := by decide +kernel
theorem dX9_mourn_1 : decode cX9_mourn 1 = .ok (.getfield 28, 3) := by decide +kernel
theorem dX9_mourn_4 : decode cX9_mourn 4 = .ok (.iload_n 1, 1) := by decide +kernel
theorem dX9_mourn_5 : decode cX9_mourn 5 = .ok (.invokevirtual 79, 3) := by decide +kernel
theorem dX9_mourn_8 : decode cX9_mourn 8 = .ok (.astore_n 2, 1) := by decide +kernel
theorem dX9_mourn_9 : decode cX9_mourn 9 = .ok (.aload_n 2, 1) := by decide +kernel
theorem dX9_mourn_10 : decode cX9_mourn 10 = .ok (.ifnonnull 7, 3) := by decide +kernel
theorem dX9_mourn_13 : decode cX9_mourn 13 = .ok (.iconst (-1), 1) := by decide +kernel
theorem dX9_mourn_14 : decode cX9_mourn 14 = .ok (.goto 12, 3) := by decide +kernel
theorem dX9_mourn_17 : decode cX9_mourn 17 = .ok (.aload_n 2, 1) := by decide +kernel
theorem dX9_mourn_18 : decode cX9_mourn 18 = .ok (.aload_n 0, 1) := by decide +kernel
theorem dX9_mourn_19 : decode cX9_mourn 19 = .ok (.getfield 35, 3) := by decide +kernel
theorem dX9_mourn_22 : decode cX9_mourn 22 = .ok (.iload_n 1, 1) := by decide +kernel
theorem dX9_mourn_23 : decode cX9_mourn 23 = .ok (.invokevirtual 197, 3) := by decide +kernel
theorem dX9_mourn_26 : decode cX9_mourn 26 = .ok (.ireturn, 1) := by decide +kernel
theorem dX9_as_0 : decode cX9_as 0 = .ok (.aload_n 0, 1) := by decide +kernel
theorem dX9_as_1 : decode cX9_as 1 = .ok (.iconst 0, 1) := by decide +kernel
theorem dX9_as_2 : decode cX9_as 2 = .ok (.putfield 56, 3) := by decide +kernel
theorem dX9_as_5 : decode cX9_as 5 = .ok (.aload_n 0, 1) := by decide +kernel
theorem dX9_as_6 : decode cX9_as 6 = .ok (.getfield 28, 3) := by decide +kernel
theorem dX9_as_9 : decode cX9_as 9 = .ok (.iload_n 1, 1) := by decide +kernel
theorem dX9_as_10 : decode cX9_as 10 = .ok (.invokevirtual 79, 3) := by decide +kernel
theorem dX9_as_13 : decode cX9_as 13 = .ok (.astore_n 3, 1) := by decide +kernel
theorem dX9_as_14 : decode cX9_as 14 = .ok (.aload_n 3, 1) := by decide +kernel
theorem dX9_as_15 : decode cX9_as 15 = .ok (.ifnonnull 5, 3) := by decide +kernel
theorem dX9_as_18 : decode cX9_as 18 = .ok (.iconst (-1), 1) := by decide +kernel
theorem dX9_as_19 : decode cX9_as 19 = .ok (.ireturn, 1) := by decide +kernel
theorem dX9_as_20 : decode cX9_as 20 = .ok (.iload_n 2, 1) := by decide +kernel
theorem dX9_as_21 : decode cX9_as 21 = .ok (.ifCond .lt 8, 3) := by decide +kernel
theorem dX9_as_24 : decode cX9_as 24 = .ok (.iload_n 2, 1) := by decide +kernel
theorem dX9_as_25 : decode cX9_as 25 = .ok (.iconst 3, 1) := by decide +kernel
theorem dX9_as_26 : decode cX9_as 26 = .ok (.if_icmp .lt 6, 3) := by decide +kernel
theorem dX9_as_29 : decode cX9_as 29 = .ok (.bipush (-2), 2) := by decide +kernel
theorem dX9_as_31 : decode cX9_as 31 = .ok (.ireturn, 1) := by decide +kernel
theorem dX9_as_32 : decode cX9_as 32 = .ok (.aload_n 3, 1) := by decide +kernel
theorem dX9_as_33 : decode cX9_as 33 = .ok (.invokevirtual 201, 3) := by decide +kernel
theorem dX9_as_36 : decode cX9_as 36 = .ok (.iload_n 2, 1) := by decide +kernel
theorem dX9_as_37 : decode cX9_as 37 = .ok (.if_icmp .ge 11, 3) := by decide +kernel
theorem dX9_as_40 : decode cX9_as 40 = .ok (.aload_n 0, 1) := by decide +kernel
theorem dX9_as_41 : decode cX9_as 41 = .ok (.iconst 2, 1) := by decide +kernel
theorem dX9_as_42 : decode cX9_as 42 = .ok (.invokevirtual 157, 3) := by decide +kernel
theorem dX9_as_45 : decode cX9_as 45 = .ok (.goto 4, 3) := by decide +kernel
theorem dX9_as_48 : decode cX9_as 48 = .ok (.iconst 1, 1) := by decide +kernel
theorem dX9_as_49 : decode cX9_as 49 = .ok (.ireturn, 1) := by decide +kernel
theorem dX9_trace_0 : decode cX9_trace 0 = .ok (.aload_n 0, 1) := by decide +kernel
theorem dX9_trace_1 : decode cX9_trace 1 = .ok (.getfield 35, 3) := by decide +kernel
theorem dX9_trace_4 : decode cX9_trace 4 = .ok (.invokevirtual 204, 3) := by decide +kernel
theorem dX9_trace_7 : decode cX9_trace 7 = .ok (.ireturn, 1) := by decide +kernel
theorem dX9_fault_0 : decode cX9_fault 0 = .ok (.aload_n 0, 1) := by decide +kernel
theorem dX9_fault_1 : decode cX9_fault 1 = .ok (.getfield 56, 3) := by decide +kernel
theorem dX9_fault_4 : decode cX9_fault 4 = .ok (.ireturn, 1) := by decide +kernel
theorem dX9_many_0 : decode cX9_many 0 = .ok (.aload_n 0, 1) := by decide +kernel
theorem dX9_many_1 : decode cX9_many 1 = .ok (.getfield 28, 3) := by decide +kernel
theorem dX9_many_4 : decode cX9_many 4 = .ok (.invokevirtual 76, 3) := by decide +kernel
theorem dX9_many_7 : decode cX9_many 7 = .ok (.ireturn, 1) := by decide +kernel
theorem dX9_isVillage_0 : decode cX9_isVillage 0 = .ok (.iload_n 0, 1) := by decide +kernel
theorem dX9_isVillage_1 : decode cX9_isVillage 1 = .ok (.ifCond .lt 12, 3) := by decide +kernel
theorem dX9_isVillage_4 : decode cX9_isVillage 4 = .ok (.iload_n 0, 1) := by decide +kernel
theorem dX9_isVillage_5 : decode cX9_isVillage 5 = .ok (.iconst 2, 1) := by decide +kernel
theorem dX9_isVillage_6 : decode cX9_isVillage 6 = .ok (.if_icmp .ge 7, 3) := by decide +kernel
theorem dX9_isVillage_9 : decode cX9_isVillage 9 = .ok (.iconst 1, 1) := by decide +kernel
theorem dX9_isVillage_10 : decode cX9_isVillage 10 = .ok (.goto 4, 3) := by decide +kernel
theorem dX9_isVillage_13 : decode cX9_isVillage 13 = .ok (.iconst 0, 1) := by decide +kernel
theorem dX9_isVillage_14 : decode cX9_isVillage 14 = .ok (.ireturn, 1) := by decide +kernel
theorem dX9_isDay_0 : decode cX9_isDay 0 = .ok (.iload_n 0, 1) := by decide +kernel
theorem dX9_isDay_1 : decode cX9_isDay 1 = .ok (.ifCond .lt 13, 3) := by decide +kernel
theorem dX9_isDay_4 : decode cX9_isDay 4 = .ok (.iload_n 0, 1) := by decide +kernel
theorem dX9_isDay_5 : decode cX9_isDay 5 = .ok (.bipush 110, 2) := by decide +kernel
theorem dX9_isDay_7 : decode cX9_isDay 7 = .ok (.if_icmp .ge 7, 3) := by decide +kernel
theorem dX9_isDay_10 : decode cX9_isDay 10 = .ok (.iconst 1, 1) := by decide +kernel
theorem dX9_isDay_11 : decode cX9_isDay 11 = .ok (.goto 4, 3) := by decide +kernel
theorem dX9_isDay_14 : decode cX9_isDay 14 = .ok (.iconst 0, 1) := by decide +kernel
theorem dX9_isDay_15 : decode cX9_isDay 15 = .ok (.ireturn, 1) := by decide +kernel
theorem dX9_isQuantity_0 : decode cX9_isQuantity 0 = .ok (.iload_n 0, 1) := by decide +kernel
theorem dX9_isQuantity_1 : decode cX9_isQuantity 1 = .ok (.ifCond .lt 14, 3) := by decide +kernel
theorem dX9_isQuantity_4 : decode cX9_isQuantity 4 = .ok (.iload_n 0, 1) := by decide +kernel
theorem dX9_isQuantity_5 : decode cX9_isQuantity 5 = .ok (.sipush 1000, 3) := by decide +kernel
theorem dX9_isQuantity_8 : decode cX9_isQuantity 8 = .ok (.if_icmp .ge 7, 3) := by decide +kernel
theorem dX9_isQuantity_11 : decode cX9_isQuantity 11 = .ok (.iconst 1, 1) := by decide +kernel
theorem dX9_isQuantity_12 : decode cX9_isQuantity 12 = .ok (.goto 4, 3) := by decide +kernel
theorem dX9_isQuantity_15 : decode cX9_isQuantity 15 = .ok (.iconst 0, 1) := by decide +kernel
theorem dX9_isQuantity_16 : decode cX9_isQuantity 16 = .ok (.ireturn, 1) := by decide +kernel
theorem dX9_isWords_0 : decode cX9_isWords 0 = .ok (.iload_n 0, 1) := by decide +kernel
theorem dX9_isWords_1 : decode cX9_isWords 1 = .ok (.iconst 1, 1) := by decide +kernel
theorem dX9_isWords_2 : decode cX9_isWords 2 = .ok (.if_icmp .lt 13, 3) := by decide +kernel
theorem dX9_isWords_5 : decode cX9_isWords 5 = .ok (.iload_n 0, 1) := by decide +kernel
theorem dX9_isWords_6 : decode cX9_isWords 6 = .ok (.bipush 9, 2) := by decide +kernel
theorem dX9_isWords_8 : decode cX9_isWords 8 = .ok (.if_icmp .gt 7, 3) := by decide +kernel
theorem dX9_isWords_11 : decode cX9_isWords 11 = .ok (.iconst 1, 1) := by decide +kernel
theorem dX9_isWords_12 : decode cX9_isWords 12 = .ok (.goto 4, 3) := by decide +kernel
theorem dX9_isWords_15 : decode cX9_isWords 15 = .ok (.iconst 0, 1) := by decide +kernel
theorem dX9_isWords_16 : decode cX9_isWords 16 = .ok (.ireturn, 1) := by decide +kernel
theorem dX9_isSheet_0 : decode cX9_isSheet 0 = .ok (.iload_n 0, 1) := by decide +kernel
theorem dX9_isSheet_1 : decode cX9_isSheet 1 = .ok (.ifCond .lt 12, 3) := by decide +kernel
theorem dX9_isSheet_4 : decode cX9_isSheet 4 = .ok (.iload_n 0, 1) := by decide +kernel
theorem dX9_isSheet_5 : decode cX9_isSheet 5 = .ok (.iconst 4, 1) := by decide +kernel
theorem dX9_isSheet_6 : decode cX9_isSheet 6 = .ok (.if_icmp .ge 7, 3) := by decide +kernel
theorem dX9_isSheet_9 : decode cX9_isSheet 9 = .ok (.iconst 1, 1) := by decide +kernel
theorem dX9_isSheet_10 : decode cX9_isSheet 10 = .ok (.goto 4, 3) := by decide +kernel
theorem dX9_isSheet_13 : decode cX9_isSheet 13 = .ok (.iconst 0, 1) := by decide +kernel
theorem dX9_isSheet_14 : decode cX9_isSheet 14 = .ok (.ireturn, 1) := by decide +kernel
theorem dX9_isLane_0 : decode cX9_isLane 0 = .ok (.iload_n 0, 1) := by decide +kernel
theorem dX9_isLane_1 : decode cX9_isLane 1 = .ok (.ifCond .lt 12, 3) := by decide +kernel
theorem dX9_isLane_4 : decode cX9_isLane 4 = .ok (.iload_n 0, 1) := by decide +kernel
theorem dX9_isLane_5 : decode cX9_isLane 5 = .ok (.iconst 3, 1) := by decide +kernel
theorem dX9_isLane_6 : decode cX9_isLane 6 = .ok (.if_icmp .ge 7, 3) := by decide +kernel
theorem dX9_isLane_9 : decode cX9_isLane 9 = .ok (.iconst 1, 1) := by decide +kernel
theorem dX9_isLane_10 : decode cX9_isLane 10 = .ok (.goto 4, 3) := by decide +kernel
theorem dX9_isLane_13 : decode cX9_isLane 13 = .ok (.iconst 0, 1) := by decide +kernel
theorem dX9_isLane_14 : decode cX9_isLane 14 = .ok (.ireturn, 1) := by decide +kernel
theorem dX9_faulted_0 : decode cX9_faulted 0 = .ok (.aload_n 0, 1) := by decide +kernel
theorem dX9_faulted_1 : decode cX9_faulted 1 = .ok (.iload_n 1, 1) := by decide +kernel
theorem dX9_faulted_2 : decode cX9_faulted 2 = .ok (.putfield 56, 3) := by decide +kernel
theorem dX9_faulted_5 : decode cX9_faulted 5 = .ok (.bipush (-10), 2) := by decide +kernel
theorem dX9_faulted_7 : decode cX9_faulted 7 = .ok (.iload_n 1, 1) := by decide +kernel
theorem dX9_faulted_8 : decode cX9_faulted 8 = .ok (.isub, 1) := by decide +kernel
theorem dX9_faulted_9 : decode cX9_faulted 9 = .ok (.ireturn, 1) := by decide +kernel
theorem dX9_faultAs_0 : decode cX9_faultAs 0 = .ok (.aload_n 0, 1) := by decide +kernel
theorem dX9_faultAs_1 : decode cX9_faultAs 1 = .ok (.getfield 12, 3) := by decide +kernel
theorem dX9_faultAs_4 : decode cX9_faultAs 4 = .ok (.iload_n 1, 1) := by decide +kernel
theorem dX9_faultAs_5 : decode cX9_faultAs 5 = .ok (.invokevirtual 164, 3) := by decide +kernel
theorem dX9_faultAs_8 : decode cX9_faultAs 8 = .ok (.ifCond .ne 5, 3) := by decide +kernel
theorem dX9_faultAs_11 : decode cX9_faultAs 11 = .ok (.iconst 1, 1) := by decide +kernel
theorem dX9_faultAs_12 : decode cX9_faultAs 12 = .ok (.ireturn, 1) := by decide +kernel
theorem dX9_faultAs_13 : decode cX9_faultAs 13 = .ok (.aload_n 0, 1) := by decide +kernel
theorem dX9_faultAs_14 : decode cX9_faultAs 14 = .ok (.getfield 12, 3) := by decide +kernel
theorem dX9_faultAs_17 : decode cX9_faultAs 17 = .ok (.iload_n 1, 1) := by decide +kernel
theorem dX9_faultAs_18 : decode cX9_faultAs 18 = .ok (.invokevirtual 183, 3) := by decide +kernel
theorem dX9_faultAs_21 : decode cX9_faultAs 21 = .ok (.iload_n 2, 1) := by decide +kernel
theorem dX9_faultAs_22 : decode cX9_faultAs 22 = .ok (.if_icmp .ne 7, 3) := by decide +kernel
theorem dX9_faultAs_25 : decode cX9_faultAs 25 = .ok (.iconst 0, 1) := by decide +kernel
theorem dX9_faultAs_26 : decode cX9_faultAs 26 = .ok (.goto 4, 3) := by decide +kernel
theorem dX9_faultAs_29 : decode cX9_faultAs 29 = .ok (.iconst 2, 1) := by decide +kernel
theorem dX9_faultAs_30 : decode cX9_faultAs 30 = .ok (.ireturn, 1) := by decide +kernel
theorem dX9_refusalOfCells_0 : decode cX9_refusalOfCells 0 = .ok (.aload_n 0, 1) := by decide +kernel
theorem dX9_refusalOfCells_1 : decode cX9_refusalOfCells 1 = .ok (.iconst 0, 1) := by decide +kernel
theorem dX9_refusalOfCells_2 : decode cX9_refusalOfCells 2 = .ok (.putfield 56, 3) := by decide +kernel
theorem dX9_refusalOfCells_5 : decode cX9_refusalOfCells 5 = .ok (.iload_n 1, 1) := by decide +kernel
theorem dX9_refusalOfCells_6 : decode cX9_refusalOfCells 6 = .ok (.invokestatic 89, 3) := by decide +kernel
theorem dX9_refusalOfCells_9 : decode cX9_refusalOfCells 9 = .ok (.ifCond .eq 10, 3) := by decide +kernel
theorem dX9_refusalOfCells_12 : decode cX9_refusalOfCells 12 = .ok (.iload_n 2, 1) := by decide +kernel
theorem dX9_refusalOfCells_13 : decode cX9_refusalOfCells 13 = .ok (.invokestatic 151, 3) := by decide +kernel
theorem dX9_refusalOfCells_16 : decode cX9_refusalOfCells 16 = .ok (.ifCond .ne 5, 3) := by decide +kernel
theorem dX9_refusalOfCells_19 : decode cX9_refusalOfCells 19 = .ok (.iconst (-1), 1) := by decide +kernel
theorem dX9_refusalOfCells_20 : decode cX9_refusalOfCells 20 = .ok (.ireturn, 1) := by decide +kernel
theorem dX9_refusalOfCells_21 : decode cX9_refusalOfCells 21 = .ok (.iload_n 3, 1) := by decide +kernel
theorem dX9_refusalOfCells_22 : decode cX9_refusalOfCells 22 = .ok (.ifCond .ne 11, 3) := by decide +kernel
theorem dX9_refusalOfCells_25 : decode cX9_refusalOfCells 25 = .ok (.iload 4, 2) := by decide +kernel
theorem dX9_refusalOfCells_27 : decode cX9_refusalOfCells 27 = .ok (.invokestatic 154, 3) := by decide +kernel
theorem dX9_refusalOfCells_30 : decode cX9_refusalOfCells 30 = .ok (.ifCond .ne 6, 3) := by decide +kernel
theorem dX9_refusalOfCells_33 : decode cX9_refusalOfCells 33 = .ok (.bipush (-2), 2) := by decide +kernel
theorem dX9_refusalOfCells_35 : decode cX9_refusalOfCells 35 = .ok (.ireturn, 1) := by decide +kernel
theorem dX9_refusalOfCells_36 : decode cX9_refusalOfCells 36 = .ok (.aload_n 0, 1) := by decide +kernel
theorem dX9_refusalOfCells_37 : decode cX9_refusalOfCells 37 = .ok (.iload_n 2, 1) := by decide +kernel
theorem dX9_refusalOfCells_38 : decode cX9_refusalOfCells 38 = .ok (.iload 4, 2) := by decide +kernel
theorem dX9_refusalOfCells_40 : decode cX9_refusalOfCells 40 = .ok (.invokevirtual 177, 3) := by decide +kernel
theorem dX9_refusalOfCells_43 : decode cX9_refusalOfCells 43 = .ok (.istore 7, 2) := by decide +kernel
theorem dX9_refusalOfCells_45 : decode cX9_refusalOfCells 45 = .ok (.iload 7, 2) := by decide +kernel
theorem dX9_refusalOfCells_47 : decode cX9_refusalOfCells 47 = .ok (.ifCond .eq 10, 3) := by decide +kernel
theorem dX9_refusalOfCells_50 : decode cX9_refusalOfCells 50 = .ok (.aload_n 0, 1) := by decide +kernel
theorem dX9_refusalOfCells_51 : decode cX9_refusalOfCells 51 = .ok (.iload 7, 2) := by decide +kernel
theorem dX9_refusalOfCells_53 : decode cX9_refusalOfCells 53 = .ok (.invokevirtual 157, 3) := by decide +kernel
theorem dX9_refusalOfCells_56 : decode cX9_refusalOfCells 56 = .ok (.ireturn, 1) := by decide +kernel
theorem dX9_refusalOfCells_57 : decode cX9_refusalOfCells 57 = .ok (.iload 6, 2) := by decide +kernel
theorem dX9_refusalOfCells_59 : decode cX9_refusalOfCells 59 = .ok (.ifCond .ge 9, 3) := by decide +kernel
theorem dX9_refusalOfCells_62 : decode cX9_refusalOfCells 62 = .ok (.aload_n 0, 1) := by decide +kernel
theorem dX9_refusalOfCells_63 : decode cX9_refusalOfCells 63 = .ok (.iconst 4, 1) := by decide +kernel
theorem dX9_refusalOfCells_64 : decode cX9_refusalOfCells 64 = .ok (.invokevirtual 157, 3) := by decide +kernel
theorem dX9_refusalOfCells_67 : decode cX9_refusalOfCells 67 = .ok (.ireturn, 1) := by decide +kernel
theorem dX9_refusalOfCells_68 : decode cX9_refusalOfCells 68 = .ok (.aload_n 0, 1) := by decide +kernel
theorem dX9_refusalOfCells_69 : decode cX9_refusalOfCells 69 = .ok (.getfield 12, 3) := by decide +kernel
theorem dX9_refusalOfCells_72 : decode cX9_refusalOfCells 72 = .ok (.iload_n 2, 1) := by decide +kernel
theorem dX9_refusalOfCells_73 : decode cX9_refusalOfCells 73 = .ok (.iload 5, 2) := by decide +kernel
theorem dX9_refusalOfCells_75 : decode cX9_refusalOfCells 75 = .ok (.iload 6, 2) := by decide +kernel
theorem dX9_refusalOfCells_77 : decode cX9_refusalOfCells 77 = .ok (.invokevirtual 186, 3) := by decide +kernel
theorem dX9_refusalOfCells_80 : decode cX9_refusalOfCells 80 = .ok (.ifCond .eq 7, 3) := by decide +kernel
theorem dX9_refusalOfCells_83 : decode cX9_refusalOfCells 83 = .ok (.iconst 0, 1) := by decide +kernel
theorem dX9_refusalOfCells_84 : decode cX9_refusalOfCells 84 = .ok (.goto 8, 3) := by decide +kernel
theorem dX9_refusalOfCells_87 : decode cX9_refusalOfCells 87 = .ok (.aload_n 0, 1) := by decide +kernel
theorem dX9_refusalOfCells_88 : decode cX9_refusalOfCells 88 = .ok (.iconst 3, 1) := by decide +kernel
theorem dX9_refusalOfCells_89 : decode cX9_refusalOfCells 89 = .ok (.invokevirtual 157, 3) := by decide +kernel
theorem dX9_refusalOfCells_92 : decode cX9_refusalOfCells 92 = .ok (.ireturn, 1) := by decide +kernel
theorem dX9_refusalOfRow_0 : decode cX9_refusalOfRow 0 = .ok (.aload_n 0, 1) := by decide +kernel
theorem dX9_refusalOfRow_1 : decode cX9_refusalOfRow 1 = .ok (.iload_n 1, 1) := by decide +kernel
theorem dX9_refusalOfRow_2 : decode cX9_refusalOfRow 2 = .ok (.iload_n 2, 1) := by decide +kernel
theorem dX9_refusalOfRow_3 : decode cX9_refusalOfRow 3 = .ok (.iload_n 3, 1) := by decide +kernel
theorem dX9_refusalOfRow_4 : decode cX9_refusalOfRow 4 = .ok (.iload 4, 2) := by decide +kernel
theorem dX9_refusalOfRow_6 : decode cX9_refusalOfRow 6 = .ok (.iload 5, 2) := by decide +kernel
theorem dX9_refusalOfRow_8 : decode cX9_refusalOfRow 8 = .ok (.iload 6, 2) := by decide +kernel
theorem dX9_refusalOfRow_10 : decode cX9_refusalOfRow 10 = .ok (.invokevirtual 60, 3) := by decide +kernel
theorem dX9_refusalOfRow_13 : decode cX9_refusalOfRow 13 = .ok (.istore 7, 2) := by decide +kernel
theorem dX9_refusalOfRow_15 : decode cX9_refusalOfRow 15 = .ok (.iload 7, 2) := by decide +kernel
theorem dX9_refusalOfRow_17 : decode cX9_refusalOfRow 17 = .ok (.ifCond .ge 6, 3) := by decide +kernel
theorem dX9_refusalOfRow_20 : decode cX9_refusalOfRow 20 = .ok (.iload 7, 2) := by decide +kernel
theorem dX9_refusalOfRow_22 : decode cX9_refusalOfRow 22 = .ok (.ireturn, 1) := by decide +kernel
theorem dX9_refusalOfRow_23 : decode cX9_refusalOfRow 23 = .ok (.iload 6, 2) := by decide +kernel
theorem dX9_refusalOfRow_25 : decode cX9_refusalOfRow 25 = .ok (.bipush 20, 2) := by decide +kernel
theorem dX9_refusalOfRow_27 : decode cX9_refusalOfRow 27 = .ok (.if_icmp .le 6, 3) := by decide +kernel
theorem dX9_refusalOfRow_30 : decode cX9_refusalOfRow 30 = .ok (.bipush (-2), 2) := by decide +kernel
theorem dX9_refusalOfRow_32 : decode cX9_refusalOfRow 32 = .ok (.ireturn, 1) := by decide +kernel
theorem dX9_refusalOfRow_33 : decode cX9_refusalOfRow 33 = .ok (.iconst 0, 1) := by decide +kernel
theorem dX9_refusalOfRow_34 : decode cX9_refusalOfRow 34 = .ok (.istore 8, 2) := by decide +kernel
theorem dX9_refusalOfRow_36 : decode cX9_refusalOfRow 36 = .ok (.iload 8, 2) := by decide +kernel
theorem dX9_refusalOfRow_38 : decode cX9_refusalOfRow 38 = .ok (.iload 6, 2) := by decide +kernel
theorem dX9_refusalOfRow_40 : decode cX9_refusalOfRow 40 = .ok (.if_icmp .ge 34, 3) := by decide +kernel
theorem dX9_refusalOfRow_43 : decode cX9_refusalOfRow 43 = .ok (.aload_n 0, 1) := by decide +kernel
theorem dX9_refusalOfRow_44 : decode cX9_refusalOfRow 44 = .ok (.getfield 28, 3) := by decide +kernel
theorem dX9_refusalOfRow_47 : decode cX9_refusalOfRow 47 = .ok (.aload_n 0, 1) := by decide +kernel
theorem dX9_refusalOfRow_48 : decode cX9_refusalOfRow 48 = .ok (.getfield 12, 3) := by decide +kernel
theorem dX9_refusalOfRow_51 : decode cX9_refusalOfRow 51 = .ok (.iload_n 2, 1) := by decide +kernel
theorem dX9_refusalOfRow_52 : decode cX9_refusalOfRow 52 = .ok (.iload 5, 2) := by decide +kernel
theorem dX9_refusalOfRow_54 : decode cX9_refusalOfRow 54 = .ok (.iload 8, 2) := by decide +kernel
theorem dX9_refusalOfRow_56 : decode cX9_refusalOfRow 56 = .ok (.iadd, 1) := by decide +kernel
theorem dX9_refusalOfRow_57 : decode cX9_refusalOfRow 57 = .ok (.invokevirtual 180, 3) := by decide +kernel
theorem dX9_refusalOfRow_60 : decode cX9_refusalOfRow 60 = .ok (.invokevirtual 79, 3) := by decide +kernel
theorem dX9_refusalOfRow_63 : decode cX9_refusalOfRow 63 = .ok (.ifnonnull 5, 3) := by decide +kernel
theorem dX9_refusalOfRow_66 : decode cX9_refusalOfRow 66 = .ok (.iconst (-1), 1) := by decide +kernel
theorem dX9_refusalOfRow_67 : decode cX9_refusalOfRow 67 = .ok (.ireturn, 1) := by decide +kernel
theorem dX9_refusalOfRow_68 : decode cX9_refusalOfRow 68 = .ok (.iinc 8 1, 3) := by decide +kernel
theorem dX9_refusalOfRow_71 : decode cX9_refusalOfRow 71 = .ok (.goto (-35), 3) := by decide +kernel
theorem dX9_refusalOfRow_74 : decode cX9_refusalOfRow 74 = .ok (.iconst 0, 1) := by decide +kernel
theorem dX9_refusalOfRow_75 : decode cX9_refusalOfRow 75 = .ok (.ireturn, 1) := by decide +kernel
theorem dX9_areBargains_0 : decode cX9_areBargains 0 = .ok (.iconst 0, 1) := by decide +kernel
theorem dX9_areBargains_1 : decode cX9_areBargains 1 = .ok (.istore 4, 2) := by decide +kernel
theorem dX9_areBargains_3 : decode cX9_areBargains 3 = .ok (.iload 4, 2) := by decide +kernel
theorem dX9_areBargains_5 : decode cX9_areBargains 5 = .ok (.iload_n 3, 1) := by decide +kernel
theorem dX9_areBargains_6 : decode cX9_areBargains 6 = .ok (.if_icmp .ge 29, 3) := by decide +kernel
theorem dX9_areBargains_9 : decode cX9_areBargains 9 = .ok (.aload_n 0, 1) := by decide +kernel
theorem dX9_areBargains_10 : decode cX9_areBargains 10 = .ok (.getfield 12, 3) := by decide +kernel
theorem dX9_areBargains_13 : decode cX9_areBargains 13 = .ok (.iload_n 1, 1) := by decide +kernel
theorem dX9_areBargains_14 : decode cX9_areBargains 14 = .ok (.iload_n 2, 1) := by decide +kernel
theorem dX9_areBargains_15 : decode cX9_areBargains 15 = .ok (.iload 4, 2) := by decide +kernel
theorem dX9_areBargains_17 : decode cX9_areBargains 17 = .ok (.iadd, 1) := by decide +kernel
theorem dX9_areBargains_18 : decode cX9_areBargains 18 = .ok (.invokevirtual 180, 3) := by decide +kernel
theorem dX9_areBargains_21 : decode cX9_areBargains 21 = .ok (.invokestatic 111, 3) := by decide +kernel
theorem dX9_areBargains_24 : decode cX9_areBargains 24 = .ok (.ifCond .ne 5, 3) := by decide +kernel
theorem dX9_areBargains_27 : decode cX9_areBargains 27 = .ok (.iconst 0, 1) := by decide +kernel
theorem dX9_areBargains_28 : decode cX9_areBargains 28 = .ok (.ireturn, 1) := by decide +kernel
theorem dX9_areBargains_29 : decode cX9_areBargains 29 = .ok (.iinc 4 1, 3) := by decide +kernel
theorem dX9_areBargains_32 : decode cX9_areBargains 32 = .ok (.goto (-29), 3) := by decide +kernel
theorem dX9_areBargains_35 : decode cX9_areBargains 35 = .ok (.iconst 1, 1) := by decide +kernel
theorem dX9_areBargains_36 : decode cX9_areBargains 36 = .ok (.ireturn, 1) := by decide +kernel
theorem dX9_meaning_0 : decode cX9_meaning 0 = .ok (.iconst 0, 1) := by decide +kernel
theorem dX9_meaning_1 : decode cX9_meaning 1 = .ok (.istore 6, 2) := by decide +kernel
theorem dX9_meaning_3 : decode cX9_meaning 3 = .ok (.iconst 0, 1) := by decide +kernel
theorem dX9_meaning_4 : decode cX9_meaning 4 = .ok (.istore 7, 2) := by decide +kernel
theorem dX9_meaning_6 : decode cX9_meaning 6 = .ok (.iload 7, 2) := by decide +kernel
theorem dX9_meaning_8 : decode cX9_meaning 8 = .ok (.iload_n 3, 1) := by decide +kernel
theorem dX9_meaning_9 : decode cX9_meaning 9 = .ok (.if_icmp .ge 63, 3) := by decide +kernel
theorem dX9_meaning_12 : decode cX9_meaning 12 = .ok (.aload_n 0, 1) := by decide +kernel
theorem dX9_meaning_13 : decode cX9_meaning 13 = .ok (.getfield 28, 3) := by decide +kernel
theorem dX9_meaning_16 : decode cX9_meaning 16 = .ok (.aload_n 0, 1) := by decide +kernel
theorem dX9_meaning_17 : decode cX9_meaning 17 = .ok (.getfield 12, 3) := by decide +kernel
theorem dX9_meaning_20 : decode cX9_meaning 20 = .ok (.iload_n 1, 1) := by decide +kernel
theorem dX9_meaning_21 : decode cX9_meaning 21 = .ok (.iload_n 2, 1) := by decide +kernel
theorem dX9_meaning_22 : decode cX9_meaning 22 = .ok (.iload 7, 2) := by decide +kernel
theorem dX9_meaning_24 : decode cX9_meaning 24 = .ok (.iadd, 1) := by decide +kernel
theorem dX9_meaning_25 : decode cX9_meaning 25 = .ok (.invokevirtual 180, 3) := by decide +kernel
theorem dX9_meaning_28 : decode cX9_meaning 28 = .ok (.invokevirtual 79, 3) := by decide +kernel
theorem dX9_meaning_31 : decode cX9_meaning 31 = .ok (.astore 8, 2) := by decide +kernel
