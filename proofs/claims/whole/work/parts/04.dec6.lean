theorem dX10_saidOf_3 : decode cX10_saidOf 3 = .ok (.istore_n 3, 1) := by decide +kernel
theorem dX10_saidOf_4 : decode cX10_saidOf 4 = .ok (.iload_n 3, 1) := by decide +kernel
theorem dX10_saidOf_5 : decode cX10_saidOf 5 = .ok (.bipush 100, 2) := by decide +kernel
theorem dX10_saidOf_7 : decode cX10_saidOf 7 = .ok (.if_icmp .ge 27, 3) := by decide +kernel
theorem dX10_saidOf_10 : decode cX10_saidOf 10 = .ok (.iload_n 2, 1) := by decide +kernel
theorem dX10_saidOf_11 : decode cX10_saidOf 11 = .ok (.aload_n 0, 1) := by decide +kernel
theorem dX10_saidOf_12 : decode cX10_saidOf 12 = .ok (.getfield 44, 3) := by decide +kernel
theorem dX10_saidOf_15 : decode cX10_saidOf 15 = .ok (.iload_n 3, 1) := by decide +kernel
theorem dX10_saidOf_16 : decode cX10_saidOf 16 = .ok (.iaload, 1) := by decide +kernel
theorem dX10_saidOf_17 : decode cX10_saidOf 17 = .ok (.iload_n 1, 1) := by decide +kernel
theorem dX10_saidOf_18 : decode cX10_saidOf 18 = .ok (.if_icmp .gt 7, 3) := by decide +kernel
theorem dX10_saidOf_21 : decode cX10_saidOf 21 = .ok (.iconst 1, 1) := by decide +kernel
theorem dX10_saidOf_22 : decode cX10_saidOf 22 = .ok (.goto 4, 3) := by decide +kernel
theorem dX10_saidOf_25 : decode cX10_saidOf 25 = .ok (.iconst 0, 1) := by decide +kernel
theorem dX10_saidOf_26 : decode cX10_saidOf 26 = .ok (.iadd, 1) := by decide +kernel
theorem dX10_saidOf_27 : decode cX10_saidOf 27 = .ok (.istore_n 2, 1) := by decide +kernel
theorem dX10_saidOf_28 : decode cX10_saidOf 28 = .ok (.iinc 3 1, 3) := by decide +kernel
theorem dX10_saidOf_31 : decode cX10_saidOf 31 = .ok (.goto (-27), 3) := by decide +kernel
theorem dX10_saidOf_34 : decode cX10_saidOf 34 = .ok (.iload_n 2, 1) := by decide +kernel
theorem dX10_saidOf_35 : decode cX10_saidOf 35 = .ok (.ireturn, 1) := by decide +kernel
theorem dX10_lost_0 : decode cX10_lost 0 = .ok (.aload_n 0, 1) := by decide +kernel
theorem dX10_lost_1 : decode cX10_lost 1 = .ok (.iload_n 1, 1) := by decide +kernel
theorem dX10_lost_2 : decode cX10_lost 2 = .ok (.invokevirtual 127, 3) := by decide +kernel
theorem dX10_lost_5 : decode cX10_lost 5 = .ok (.ifCond .ne 10, 3) := by decide +kernel
theorem dX10_lost_8 : decode cX10_lost 8 = .ok (.iload_n 2, 1) := by decide +kernel
theorem dX10_lost_9 : decode cX10_lost 9 = .ok (.invokestatic 130, 3) := by decide +kernel
theorem dX10_lost_12 : decode cX10_lost 12 = .ok (.ifCond .eq 5, 3) := by decide +kernel
theorem dX10_lost_15 : decode cX10_lost 15 = .ok (.iconst (-1), 1) := by decide +kernel
theorem dX10_lost_16 : decode cX10_lost 16 = .ok (.ireturn, 1) := by decide +kernel
theorem dX10_lost_17 : decode cX10_lost 17 = .ok (.iload_n 3, 1) := by decide +kernel
theorem dX10_lost_18 : decode cX10_lost 18 = .ok (.invokestatic 133, 3) := by decide +kernel
theorem dX10_lost_21 : decode cX10_lost 21 = .ok (.ifCond .eq 11, 3) := by decide +kernel
theorem dX10_lost_24 : decode cX10_lost 24 = .ok (.iload 4, 2) := by decide +kernel
theorem dX10_lost_26 : decode cX10_lost 26 = .ok (.invokestatic 172, 3) := by decide +kernel
theorem dX10_lost_29 : decode cX10_lost 29 = .ok (.ifCond .ne 6, 3) := by decide +kernel
theorem dX10_lost_32 : decode cX10_lost 32 = .ok (.bipush (-2), 2) := by decide +kernel
theorem dX10_lost_34 : decode cX10_lost 34 = .ok (.ireturn, 1) := by decide +kernel
theorem dX10_lost_35 : decode cX10_lost 35 = .ok (.aload_n 0, 1) := by decide +kernel
theorem dX10_lost_36 : decode cX10_lost 36 = .ok (.iload_n 2, 1) := by decide +kernel
theorem dX10_lost_37 : decode cX10_lost 37 = .ok (.iload_n 3, 1) := by decide +kernel
theorem dX10_lost_38 : decode cX10_lost 38 = .ok (.bipush 99, 2) := by decide +kernel
theorem dX10_lost_40 : decode cX10_lost 40 = .ok (.invokevirtual 169, 3) := by decide +kernel
theorem dX10_lost_43 : decode cX10_lost 43 = .ok (.aload_n 0, 1) := by decide +kernel
theorem dX10_lost_44 : decode cX10_lost 44 = .ok (.iload 4, 2) := by decide +kernel
theorem dX10_lost_46 : decode cX10_lost 46 = .ok (.invokevirtual 175, 3) := by decide +kernel
theorem dX10_lost_49 : decode cX10_lost 49 = .ok (.istore 5, 2) := by decide +kernel
theorem dX10_lost_51 : decode cX10_lost 51 = .ok (.aload_n 0, 1) := by decide +kernel
theorem dX10_lost_52 : decode cX10_lost 52 = .ok (.iload_n 2, 1) := by decide +kernel
theorem dX10_lost_53 : decode cX10_lost 53 = .ok (.iload_n 3, 1) := by decide +kernel
theorem dX10_lost_54 : decode cX10_lost 54 = .ok (.iload_n 1, 1) := by decide +kernel
theorem dX10_lost_55 : decode cX10_lost 55 = .ok (.invokevirtual 149, 3) := by decide +kernel
theorem dX10_lost_58 : decode cX10_lost 58 = .ok (.aload_n 0, 1) := by decide +kernel
theorem dX10_lost_59 : decode cX10_lost 59 = .ok (.bipush 99, 2) := by decide +kernel
theorem dX10_lost_61 : decode cX10_lost 61 = .ok (.invokevirtual 153, 3) := by decide +kernel
theorem dX10_lost_64 : decode cX10_lost 64 = .ok (.iload 5, 2) := by decide +kernel
theorem dX10_lost_66 : decode cX10_lost 66 = .ok (.aload_n 0, 1) := by decide +kernel
theorem dX10_lost_67 : decode cX10_lost 67 = .ok (.iload 4, 2) := by decide +kernel
theorem dX10_lost_69 : decode cX10_lost 69 = .ok (.invokevirtual 175, 3) := by decide +kernel
theorem dX10_lost_72 : decode cX10_lost 72 = .ok (.isub, 1) := by decide +kernel
theorem dX10_lost_73 : decode cX10_lost 73 = .ok (.ireturn, 1) := by decide +kernel
theorem dX10_isSaidBy_0 : decode cX10_isSaidBy 0 = .ok (.aload_n 0, 1) := by decide +kernel
theorem dX10_isSaidBy_1 : decode cX10_isSaidBy 1 = .ok (.iload_n 2, 1) := by decide +kernel
theorem dX10_isSaidBy_2 : decode cX10_isSaidBy 2 = .ok (.iload_n 3, 1) := by decide +kernel
theorem dX10_isSaidBy_3 : decode cX10_isSaidBy 3 = .ok (.bipush (-9), 2) := by decide +kernel
theorem dX10_isSaidBy_5 : decode cX10_isSaidBy 5 = .ok (.invokevirtual 149, 3) := by decide +kernel
theorem dX10_isSaidBy_8 : decode cX10_isSaidBy 8 = .ok (.iconst 0, 1) := by decide +kernel
theorem dX10_isSaidBy_9 : decode cX10_isSaidBy 9 = .ok (.istore 6, 2) := by decide +kernel
theorem dX10_isSaidBy_11 : decode cX10_isSaidBy 11 = .ok (.iload 6, 2) := by decide +kernel
theorem dX10_isSaidBy_13 : decode cX10_isSaidBy 13 = .ok (.aload_n 0, 1) := by decide +kernel
theorem dX10_isSaidBy_14 : decode cX10_isSaidBy 14 = .ok (.getfield 93, 3) := by decide +kernel
theorem dX10_isSaidBy_17 : decode cX10_isSaidBy 17 = .ok (.if_icmp .ge 33, 3) := by decide +kernel
theorem dX10_isSaidBy_20 : decode cX10_isSaidBy 20 = .ok (.iload 5, 2) := by decide +kernel
theorem dX10_isSaidBy_22 : decode cX10_isSaidBy 22 = .ok (.iload 6, 2) := by decide +kernel
theorem dX10_isSaidBy_24 : decode cX10_isSaidBy 24 = .ok (.ishr, 1) := by decide +kernel
theorem dX10_isSaidBy_25 : decode cX10_isSaidBy 25 = .ok (.iconst 1, 1) := by decide +kernel
theorem dX10_isSaidBy_26 : decode cX10_isSaidBy 26 = .ok (.iand, 1) := by decide +kernel
theorem dX10_isSaidBy_27 : decode cX10_isSaidBy 27 = .ok (.iconst 1, 1) := by decide +kernel
theorem dX10_isSaidBy_28 : decode cX10_isSaidBy 28 = .ok (.if_icmp .ne 16, 3) := by decide +kernel
theorem dX10_isSaidBy_31 : decode cX10_isSaidBy 31 = .ok (.aload_n 0, 1) := by decide +kernel
theorem dX10_isSaidBy_32 : decode cX10_isSaidBy 32 = .ok (.getfield 40, 3) := by decide +kernel
theorem dX10_isSaidBy_35 : decode cX10_isSaidBy 35 = .ok (.aload_n 0, 1) := by decide +kernel
theorem dX10_isSaidBy_36 : decode cX10_isSaidBy 36 = .ok (.getfield 16, 3) := by decide +kernel
theorem dX10_isSaidBy_39 : decode cX10_isSaidBy 39 = .ok (.iload 6, 2) := by decide +kernel
theorem dX10_isSaidBy_41 : decode cX10_isSaidBy 41 = .ok (.iaload, 1) := by decide +kernel
theorem dX10_isSaidBy_42 : decode cX10_isSaidBy 42 = .ok (.iconst 1, 1) := by decide +kernel
theorem dX10_isSaidBy_43 : decode cX10_isSaidBy 43 = .ok (.bastore, 1) := by decide +kernel
theorem dX10_isSaidBy_44 : decode cX10_isSaidBy 44 = .ok (.iinc 6 1, 3) := by decide +kernel
theorem dX10_isSaidBy_47 : decode cX10_isSaidBy 47 = .ok (.goto (-36), 3) := by decide +kernel
theorem dX10_isSaidBy_50 : decode cX10_isSaidBy 50 = .ok (.aload_n 0, 1) := by decide +kernel
theorem dX10_isSaidBy_51 : decode cX10_isSaidBy 51 = .ok (.iload_n 1, 1) := by decide +kernel
theorem dX10_isSaidBy_52 : decode cX10_isSaidBy 52 = .ok (.invokevirtual 153, 3) := by decide +kernel
theorem dX10_isSaidBy_55 : decode cX10_isSaidBy 55 = .ok (.aload_n 0, 1) := by decide +kernel
theorem dX10_isSaidBy_56 : decode cX10_isSaidBy 56 = .ok (.getfield 44, 3) := by decide +kernel
theorem dX10_isSaidBy_59 : decode cX10_isSaidBy 59 = .ok (.iload_n 1, 1) := by decide +kernel
theorem dX10_isSaidBy_60 : decode cX10_isSaidBy 60 = .ok (.iaload, 1) := by decide +kernel
theorem dX10_isSaidBy_61 : decode cX10_isSaidBy 61 = .ok (.iload 4, 2) := by decide +kernel
theorem dX10_isSaidBy_63 : decode cX10_isSaidBy 63 = .ok (.if_icmp .gt 7, 3) := by decide +kernel
theorem dX10_isSaidBy_66 : decode cX10_isSaidBy 66 = .ok (.iconst 1, 1) := by decide +kernel
theorem dX10_isSaidBy_67 : decode cX10_isSaidBy 67 = .ok (.goto 4, 3) := by decide +kernel
theorem dX10_isSaidBy_70 : decode cX10_isSaidBy 70 = .ok (.iconst 0, 1) := by decide +kernel
theorem dX10_isSaidBy_71 : decode cX10_isSaidBy 71 = .ok (.ireturn, 1) := by decide +kernel
theorem dX10_setOf_0 : decode cX10_setOf 0 = .ok (.iconst 0, 1) := by decide +kernel
theorem dX10_setOf_1 : decode cX10_setOf 1 = .ok (.istore 4, 2) := by decide +kernel
theorem dX10_setOf_3 : decode cX10_setOf 3 = .ok (.bipush (-9), 2) := by decide +kernel
theorem dX10_setOf_5 : decode cX10_setOf 5 = .ok (.istore 5, 2) := by decide +kernel
theorem dX10_setOf_7 : decode cX10_setOf 7 = .ok (.iconst 0, 1) := by decide +kernel
theorem dX10_setOf_8 : decode cX10_setOf 8 = .ok (.istore 6, 2) := by decide +kernel
theorem dX10_setOf_10 : decode cX10_setOf 10 = .ok (.iload_n 1, 1) := by decide +kernel
theorem dX10_setOf_11 : decode cX10_setOf 11 = .ok (.istore 7, 2) := by decide +kernel
theorem dX10_setOf_13 : decode cX10_setOf 13 = .ok (.iconst 0, 1) := by decide +kernel
theorem dX10_setOf_14 : decode cX10_setOf 14 = .ok (.istore 8, 2) := by decide +kernel
theorem dX10_setOf_16 : decode cX10_setOf 16 = .ok (.iload 8, 2) := by decide +kernel
theorem dX10_setOf_18 : decode cX10_setOf 18 = .ok (.iconst 3, 1) := by decide +kernel
theorem dX10_setOf_19 : decode cX10_setOf 19 = .ok (.if_icmp .ge 87, 3) := by decide +kernel
theorem dX10_setOf_22 : decode cX10_setOf 22 = .ok (.iload 7, 2) := by decide +kernel
theorem dX10_setOf_24 : decode cX10_setOf 24 = .ok (.bipush 121, 2) := by decide +kernel
theorem dX10_setOf_26 : decode cX10_setOf 26 = .ok (.idiv, 1) := by decide +kernel
theorem dX10_setOf_27 : decode cX10_setOf 27 = .ok (.istore 9, 2) := by decide +kernel
theorem dX10_setOf_29 : decode cX10_setOf 29 = .ok (.iload 7, 2) := by decide +kernel
theorem dX10_setOf_31 : decode cX10_setOf 31 = .ok (.bipush 121, 2) := by decide +kernel
theorem dX10_setOf_33 : decode cX10_setOf 33 = .ok (.irem, 1) := by decide +kernel
theorem dX10_setOf_34 : decode cX10_setOf 34 = .ok (.bipush 11, 2) := by decide +kernel
theorem dX10_setOf_36 : decode cX10_setOf 36 = .ok (.imul, 1) := by decide +kernel
theorem dX10_setOf_37 : decode cX10_setOf 37 = .ok (.istore 7, 2) := by decide +kernel
theorem dX10_setOf_39 : decode cX10_setOf 39 = .ok (.iload 9, 2) := by decide +kernel
theorem dX10_setOf_41 : decode cX10_setOf 41 = .ok (.bipush 10, 2) := by decide +kernel
theorem dX10_setOf_43 : decode cX10_setOf 43 = .ok (.if_icmp .ge 54, 3) := by decide +kernel
theorem dX10_setOf_46 : decode cX10_setOf 46 = .ok (.iload 6, 2) := by decide +kernel
theorem dX10_setOf_48 : decode cX10_setOf 48 = .ok (.ifCond .ne 30, 3) := by decide +kernel
theorem dX10_setOf_51 : decode cX10_setOf 51 = .ok (.iload 9, 2) := by decide +kernel
theorem dX10_setOf_53 : decode cX10_setOf 53 = .ok (.iload 5, 2) := by decide +kernel
theorem dX10_setOf_55 : decode cX10_setOf 55 = .ok (.if_icmp .le 23, 3) := by decide +kernel
theorem dX10_setOf_58 : decode cX10_setOf 58 = .ok (.iload 9, 2) := by decide +kernel
theorem dX10_setOf_60 : decode cX10_setOf 60 = .ok (.aload_n 0, 1) := by decide +kernel
theorem dX10_setOf_61 : decode cX10_setOf 61 = .ok (.getfield 93, 3) := by decide +kernel
theorem dX10_setOf_64 : decode cX10_setOf 64 = .ok (.if_icmp .ge 14, 3) := by decide +kernel
theorem dX10_setOf_67 : decode cX10_setOf 67 = .ok (.aload_n 0, 1) := by decide +kernel
theorem dX10_setOf_68 : decode cX10_setOf 68 = .ok (.iload 9, 2) := by decide +kernel
theorem dX10_setOf_70 : decode cX10_setOf 70 = .ok (.iload_n 2, 1) := by decide +kernel
theorem dX10_setOf_71 : decode cX10_setOf 71 = .ok (.iload_n 3, 1) := by decide +kernel
theorem dX10_setOf_72 : decode cX10_setOf 72 = .ok (.invokevirtual 136, 3) := by decide +kernel
theorem dX10_setOf_75 : decode cX10_setOf 75 = .ok (.ifCond .eq 6, 3) := by decide +kernel
theorem dX10_setOf_78 : decode cX10_setOf 78 = .ok (.bipush (-9), 2) := by decide +kernel
theorem dX10_setOf_80 : decode cX10_setOf 80 = .ok (.ireturn, 1) := by decide +kernel
theorem dX10_setOf_81 : decode cX10_setOf 81 = .ok (.iload 4, 2) := by decide +kernel
theorem dX10_setOf_83 : decode cX10_setOf 83 = .ok (.iconst 1, 1) := by decide +kernel
theorem dX10_setOf_84 : decode cX10_setOf 84 = .ok (.iload 9, 2) := by decide +kernel
theorem dX10_setOf_86 : decode cX10_setOf 86 = .ok (.ishl, 1) := by decide +kernel
theorem dX10_setOf_87 : decode cX10_setOf 87 = .ok (.ior, 1) := by decide +kernel
theorem dX10_setOf_88 : decode cX10_setOf 88 = .ok (.istore 4, 2) := by decide +kernel
theorem dX10_setOf_90 : decode cX10_setOf 90 = .ok (.iload 9, 2) := by decide +kernel
theorem dX10_setOf_92 : decode cX10_setOf 92 = .ok (.istore 5, 2) := by decide +kernel
theorem dX10_setOf_94 : decode cX10_setOf 94 = .ok (.goto 6, 3) := by decide +kernel
theorem dX10_setOf_97 : decode cX10_setOf 97 = .ok (.iconst 1, 1) := by decide +kernel
theorem dX10_setOf_98 : decode cX10_setOf 98 = .ok (.istore 6, 2) := by decide +kernel
theorem dX10_setOf_100 : decode cX10_setOf 100 = .ok (.iinc 8 1, 3) := by decide +kernel
theorem dX10_setOf_103 : decode cX10_setOf 103 = .ok (.goto (-87), 3) := by decide +kernel
theorem dX10_setOf_106 : decode cX10_setOf 106 = .ok (.iload 4, 2) := by decide +kernel
theorem dX10_setOf_108 : decode cX10_setOf 108 = .ok (.ireturn, 1) := by decide +kernel
theorem dX10_bits_0 : decode cX10_bits 0 = .ok (.iconst 0, 1) := by decide +kernel
theorem dX10_bits_1 : decode cX10_bits 1 = .ok (.istore_n 1, 1) := by decide +kernel
theorem dX10_bits_2 : decode cX10_bits 2 = .ok (.iload_n 0, 1) := by decide +kernel
theorem dX10_bits_3 : decode cX10_bits 3 = .ok (.istore_n 2, 1) := by decide +kernel
theorem dX10_bits_4 : decode cX10_bits 4 = .ok (.iload_n 2, 1) := by decide +kernel
theorem dX10_bits_5 : decode cX10_bits 5 = .ok (.ifCond .le 16, 3) := by decide +kernel
theorem dX10_bits_8 : decode cX10_bits 8 = .ok (.iload_n 1, 1) := by decide +kernel
theorem dX10_bits_9 : decode cX10_bits 9 = .ok (.iload_n 2, 1) := by decide +kernel
theorem dX10_bits_10 : decode cX10_bits 10 = .ok (.iconst 1, 1) := by decide +kernel
theorem dX10_bits_11 : decode cX10_bits 11 = .ok (.iand, 1) := by decide +kernel
theorem dX10_bits_12 : decode cX10_bits 12 = .ok (.iadd, 1) := by decide +kernel
theorem dX10_bits_13 : decode cX10_bits 13 = .ok (.istore_n 1, 1) := by decide +kernel
theorem dX10_bits_14 : decode cX10_bits 14 = .ok (.iload_n 2, 1) := by decide +kernel
theorem dX10_bits_15 : decode cX10_bits 15 = .ok (.iconst 1, 1) := by decide +kernel
theorem dX10_bits_16 : decode cX10_bits 16 = .ok (.ishr, 1) := by decide +kernel
theorem dX10_bits_17 : decode cX10_bits 17 = .ok (.istore_n 2, 1) := by decide +kernel
theorem dX10_bits_18 : decode cX10_bits 18 = .ok (.goto (-14), 3) := by decide +kernel
theorem dX10_bits_21 : decode cX10_bits 21 = .ok (.iload_n 1, 1) := by decide +kernel
theorem dX10_bits_22 : decode cX10_bits 22 = .ok (.ireturn, 1) := by decide +kernel
theorem dX10_back_0 : decode cX10_back 0 = .ok (.iload_n 2, 1) := by decide +kernel
theorem dX10_back_1 : decode cX10_back 1 = .ok (.invokestatic 130, 3) := by decide +kernel
theorem dX10_back_4 : decode cX10_back 4 = .ok (.ifCond .ne 18, 3) := by decide +kernel
theorem dX10_back_7 : decode cX10_back 7 = .ok (.iload 5, 2) := by decide +kernel
theorem dX10_back_9 : decode cX10_back 9 = .ok (.i2l, 1) := by decide +kernel
theorem dX10_back_10 : decode cX10_back 10 = .ok (.ldc2_w 178, 3) := by decide +kernel
theorem dX10_back_13 : decode cX10_back 13 = .ok (.ldc2_w 80, 3) := by decide +kernel
theorem dX10_back_16 : decode cX10_back 16 = .ok (.invokestatic 82, 3) := by decide +kernel
theorem dX10_back_19 : decode cX10_back 19 = .ok (.ifCond .ne 5, 3) := by decide +kernel
theorem dX10_back_22 : decode cX10_back 22 = .ok (.iconst (-1), 1) := by decide +kernel
theorem dX10_back_23 : decode cX10_back 23 = .ok (.ireturn, 1) := by decide +kernel
theorem dX10_back_24 : decode cX10_back 24 = .ok (.iload_n 1, 1) := by decide +kernel
theorem dX10_back_25 : decode cX10_back 25 = .ok (.i2l, 1) := by decide +kernel
theorem dX10_back_26 : decode cX10_back 26 = .ok (.lconst 0, 1) := by decide +kernel
theorem dX10_back_27 : decode cX10_back 27 = .ok (.ldc2_w 167, 3) := by decide +kernel
theorem dX10_back_30 : decode cX10_back 30 = .ok (.invokestatic 82, 3) := by decide +kernel
theorem dX10_back_33 : decode cX10_back 33 = .ok (.ifCond .eq 18, 3) := by decide +kernel
theorem dX10_back_36 : decode cX10_back 36 = .ok (.iload_n 3, 1) := by decide +kernel
theorem dX10_back_37 : decode cX10_back 37 = .ok (.invokestatic 133, 3) := by decide +kernel
theorem dX10_back_40 : decode cX10_back 40 = .ok (.ifCond .eq 11, 3) := by decide +kernel
theorem dX10_back_43 : decode cX10_back 43 = .ok (.iload 4, 2) := by decide +kernel
theorem dX10_back_45 : decode cX10_back 45 = .ok (.invokestatic 172, 3) := by decide +kernel
theorem dX10_back_48 : decode cX10_back 48 = .ok (.ifCond .ne 6, 3) := by decide +kernel
theorem dX10_back_51 : decode cX10_back 51 = .ok (.bipush (-2), 2) := by decide +kernel
theorem dX10_back_53 : decode cX10_back 53 = .ok (.ireturn, 1) := by decide +kernel
theorem dX10_back_54 : decode cX10_back 54 = .ok (.bipush (-9), 2) := by decide +kernel
theorem dX10_back_56 : decode cX10_back 56 = .ok (.istore 6, 2) := by decide +kernel
theorem dX10_back_58 : decode cX10_back 58 = .ok (.iconst 0, 1) := by decide +kernel
theorem dX10_back_59 : decode cX10_back 59 = .ok (.istore 7, 2) := by decide +kernel
theorem dX10_back_61 : decode cX10_back 61 = .ok (.iconst 0, 1) := by decide +kernel
theorem dX10_back_62 : decode cX10_back 62 = .ok (.istore 8, 2) := by decide +kernel
theorem dX10_back_64 : decode cX10_back 64 = .ok (.iload 8, 2) := by decide +kernel
theorem dX10_back_66 : decode cX10_back 66 = .ok (.sipush 1331, 3) := by decide +kernel
theorem dX10_back_69 : decode cX10_back 69 = .ok (.if_icmp .ge 64, 3) := by decide +kernel
theorem dX10_back_72 : decode cX10_back 72 = .ok (.aload_n 0, 1) := by decide +kernel
theorem dX10_back_73 : decode cX10_back 73 = .ok (.iload 8, 2) := by decide +kernel
theorem dX10_back_75 : decode cX10_back 75 = .ok (.iload_n 2, 1) := by decide +kernel
theorem dX10_back_76 : decode cX10_back 76 = .ok (.iload_n 3, 1) := by decide +kernel
theorem dX10_back_77 : decode cX10_back 77 = .ok (.invokevirtual 180, 3) := by decide +kernel
theorem dX10_back_80 : decode cX10_back 80 = .ok (.istore 9, 2) := by decide +kernel
theorem dX10_back_82 : decode cX10_back 82 = .ok (.iload 9, 2) := by decide +kernel
theorem dX10_back_84 : decode cX10_back 84 = .ok (.ifCond .lt 43, 3) := by decide +kernel
theorem dX10_back_87 : decode cX10_back 87 = .ok (.iload 6, 2) := by decide +kernel
theorem dX10_back_89 : decode cX10_back 89 = .ok (.ifCond .lt 16, 3) := by decide +kernel
theorem dX10_back_92 : decode cX10_back 92 = .ok (.iload 9, 2) := by decide +kernel
theorem dX10_back_94 : decode cX10_back 94 = .ok (.invokestatic 183, 3) := by decide +kernel
theorem dX10_back_97 : decode cX10_back 97 = .ok (.iload 6, 2) := by decide +kernel
theorem dX10_back_99 : decode cX10_back 99 = .ok (.invokestatic 183, 3) := by decide +kernel
theorem dX10_back_102 : decode cX10_back 102 = .ok (.if_icmp .ge 25, 3) := by decide +kernel
theorem dX10_back_105 : decode cX10_back 105 = .ok (.aload_n 0, 1) := by decide +kernel
theorem dX10_back_106 : decode cX10_back 106 = .ok (.iload_n 1, 1) := by decide +kernel
theorem dX10_back_107 : decode cX10_back 107 = .ok (.iload_n 2, 1) := by decide +kernel
theorem dX10_back_108 : decode cX10_back 108 = .ok (.iload_n 3, 1) := by decide +kernel
theorem dX10_back_109 : decode cX10_back 109 = .ok (.iload 4, 2) := by decide +kernel
theorem dX10_back_111 : decode cX10_back 111 = .ok (.iload 9, 2) := by decide +kernel
theorem dX10_back_113 : decode cX10_back 113 = .ok (.invokevirtual 186, 3) := by decide +kernel
theorem dX10_back_116 : decode cX10_back 116 = .ok (.ifCond .eq 11, 3) := by decide +kernel
theorem dX10_back_119 : decode cX10_back 119 = .ok (.iload 9, 2) := by decide +kernel
theorem dX10_back_121 : decode cX10_back 121 = .ok (.istore 6, 2) := by decide +kernel
theorem dX10_back_123 : decode cX10_back 123 = .ok (.iload 8, 2) := by decide +kernel
theorem dX10_back_125 : decode cX10_back 125 = .ok (.istore 7, 2) := by decide +kernel
theorem dX10_back_127 : decode cX10_back 127 = .ok (.iinc 8 1, 3) := by decide +kernel
theorem dX10_back_130 : decode cX10_back 130 = .ok (.goto (-66), 3) := by decide +kernel
theorem dX10_back_133 : decode cX10_back 133 = .ok (.iload 6, 2) := by decide +kernel
theorem dX10_back_135 : decode cX10_back 135 = .ok (.ifCond .ge 6, 3) := by decide +kernel
theorem dX10_back_138 : decode cX10_back 138 = .ok (.bipush (-9), 2) := by decide +kernel
theorem dX10_back_140 : decode cX10_back 140 = .ok (.ireturn, 1) := by decide +kernel
theorem dX10_back_141 : decode cX10_back 141 = .ok (.iload 6, 2) := by decide +kernel
theorem dX10_back_143 : decode cX10_back 143 = .ok (.invokestatic 183, 3) := by decide +kernel
theorem dX10_back_146 : decode cX10_back 146 = .ok (.istore 8, 2) := by decide +kernel
theorem dX10_back_148 : decode cX10_back 148 = .ok (.iload 5, 2) := by decide +kernel
theorem dX10_back_150 : decode cX10_back 150 = .ok (.ifCond .ge 8, 3) := by decide +kernel
theorem dX10_back_153 : decode cX10_back 153 = .ok (.iload 8, 2) := by decide +kernel
theorem dX10_back_155 : decode cX10_back 155 = .ok (.goto 50, 3) := by decide +kernel
theorem dX10_back_158 : decode cX10_back 158 = .ok (.iload 5, 2) := by decide +kernel
theorem dX10_back_160 : decode cX10_back 160 = .ok (.iload 8, 2) := by decide +kernel
theorem dX10_back_162 : decode cX10_back 162 = .ok (.if_icmp .lt 8, 3) := by decide +kernel
theorem dX10_back_165 : decode cX10_back 165 = .ok (.bipush (-9), 2) := by decide +kernel
theorem dX10_back_167 : decode cX10_back 167 = .ok (.goto 38, 3) := by decide +kernel
theorem dX10_back_170 : decode cX10_back 170 = .ok (.iload 5, 2) := by decide +kernel
theorem dX10_back_172 : decode cX10_back 172 = .ok (.ifCond .ne 11, 3) := by decide +kernel
theorem dX10_back_175 : decode cX10_back 175 = .ok (.iload 7, 2) := by decide +kernel
theorem dX10_back_177 : decode cX10_back 177 = .ok (.bipush 121, 2) := by decide +kernel
theorem dX10_back_179 : decode cX10_back 179 = .ok (.idiv, 1) := by decide +kernel
theorem dX10_back_180 : decode cX10_back 180 = .ok (.goto 25, 3) := by decide +kernel
theorem dX10_back_183 : decode cX10_back 183 = .ok (.iload 5, 2) := by decide +kernel
theorem dX10_back_185 : decode cX10_back 185 = .ok (.iconst 1, 1) := by decide +kernel
theorem dX10_back_186 : decode cX10_back 186 = .ok (.if_icmp .ne 14, 3) := by decide +kernel
theorem dX10_back_189 : decode cX10_back 189 = .ok (.iload 7, 2) := by decide +kernel
theorem dX10_back_191 : decode cX10_back 191 = .ok (.bipush 11, 2) := by decide +kernel
theorem dX10_back_193 : decode cX10_back 193 = .ok (.idiv, 1) := by decide +kernel
theorem dX10_back_194 : decode cX10_back 194 = .ok (.bipush 11, 2) := by decide +kernel
theorem dX10_back_196 : decode cX10_back 196 = .ok (.irem, 1) := by decide +kernel
theorem dX10_back_197 : decode cX10_back 197 = .ok (.goto 8, 3) := by decide +kernel
theorem dX10_back_200 : decode cX10_back 200 = .ok (.iload 7, 2) := by decide +kernel
theorem dX10_back_202 : decode cX10_back 202 = .ok (.bipush 11, 2) := by decide +kernel
theorem dX10_back_204 : decode cX10_back 204 = .ok (.irem, 1) := by decide +kernel
theorem dX10_back_205 : decode cX10_back 205 = .ok (.ireturn, 1) := by decide +kernel
theorem dX10_told_0 : decode cX10_told 0 = .ok (.iload_n 1, 1) := by decide +kernel
theorem dX10_told_1 : decode cX10_told 1 = .ok (.invokestatic 130, 3) := by decide +kernel
theorem dX10_told_4 : decode cX10_told 4 = .ok (.ifCond .ne 28, 3) := by decide +kernel
theorem dX10_told_7 : decode cX10_told 7 = .ok (.iload_n 2, 1) := by decide +kernel
theorem dX10_told_8 : decode cX10_told 8 = .ok (.invokestatic 133, 3) := by decide +kernel
theorem dX10_told_11 : decode cX10_told 11 = .ok (.ifCond .eq 21, 3) := by decide +kernel
theorem dX10_told_14 : decode cX10_told 14 = .ok (.iload_n 3, 1) := by decide +kernel
theorem dX10_told_15 : decode cX10_told 15 = .ok (.invokestatic 172, 3) := by decide +kernel
theorem dX10_told_18 : decode cX10_told 18 = .ok (.ifCond .eq 14, 3) := by decide +kernel
theorem dX10_told_21 : decode cX10_told 21 = .ok (.iload 4, 2) := by decide +kernel
theorem dX10_told_23 : decode cX10_told 23 = .ok (.i2l, 1) := by decide +kernel
theorem dX10_told_24 : decode cX10_told 24 = .ok (.lconst 0, 1) := by decide +kernel
theorem dX10_told_25 : decode cX10_told 25 = .ok (.lconst 1, 1) := by decide +kernel
theorem dX10_told_26 : decode cX10_told 26 = .ok (.invokestatic 82, 3) := by decide +kernel
theorem dX10_told_29 : decode cX10_told 29 = .ok (.ifCond .ne 7, 3) := by decide +kernel
theorem dX10_told_32 : decode cX10_told 32 = .ok (.invokestatic 68, 3) := by decide +kernel
theorem dX10_told_35 : decode cX10_told 35 = .ok (.lreturn, 1) := by decide +kernel
theorem dX10_told_36 : decode cX10_told 36 = .ok (.aload_n 0, 1) := by decide +kernel
theorem dX10_told_37 : decode cX10_told 37 = .ok (.iload_n 1, 1) := by decide +kernel
theorem dX10_told_38 : decode cX10_told 38 = .ok (.iload_n 2, 1) := by decide +kernel
theorem dX10_told_39 : decode cX10_told 39 = .ok (.bipush 99, 2) := by decide +kernel
theorem dX10_told_41 : decode cX10_told 41 = .ok (.invokevirtual 169, 3) := by decide +kernel
theorem dX10_told_44 : decode cX10_told 44 = .ok (.aload_n 0, 1) := by decide +kernel
theorem dX10_told_45 : decode cX10_told 45 = .ok (.iload_n 3, 1) := by decide +kernel
theorem dX10_told_46 : decode cX10_told 46 = .ok (.invokevirtual 175, 3) := by decide +kernel
theorem dX10_told_49 : decode cX10_told 49 = .ok (.i2l, 1) := by decide +kernel
theorem dX10_told_50 : decode cX10_told 50 = .ok (.ldc2_w 140, 3) := by decide +kernel
theorem dX10_told_53 : decode cX10_told 53 = .ok (.iload 4, 2) := by decide +kernel
theorem dX10_told_55 : decode cX10_told 55 = .ok (.invokestatic 190, 3) := by decide +kernel
theorem dX10_told_58 : decode cX10_told 58 = .ok (.lreturn, 1) := by decide +kernel
theorem dX10_noSheet_0 : decode cX10_noSheet 0 = .ok (.iload_n 0, 1) := by decide +kernel
theorem dX10_noSheet_1 : decode cX10_noSheet 1 = .ok (.i2l, 1) := by decide +kernel
theorem dX10_noSheet_2 : decode cX10_noSheet 2 = .ok (.lconst 0, 1) := by decide +kernel
theorem dX10_noSheet_3 : decode cX10_noSheet 3 = .ok (.ldc2_w 194, 3) := by decide +kernel
theorem dX10_noSheet_6 : decode cX10_noSheet 6 = .ok (.invokestatic 82, 3) := by decide +kernel
theorem dX10_noSheet_9 : decode cX10_noSheet 9 = .ok (.ifCond .ne 7, 3) := by decide +kernel
theorem dX10_noSheet_12 : decode cX10_noSheet 12 = .ok (.iconst 1, 1) := by decide +kernel
theorem dX10_noSheet_13 : decode cX10_noSheet 13 = .ok (.goto 4, 3) := by decide +kernel
theorem dX10_noSheet_16 : decode cX10_noSheet 16 = .ok (.iconst 0, 1) := by decide +kernel
theorem dX10_noSheet_17 : decode cX10_noSheet 17 = .ok (.ireturn, 1) := by decide +kernel
theorem dX10_sheet_0 : decode cX10_sheet 0 = .ok (.iload_n 1, 1) := by decide +kernel
theorem dX10_sheet_1 : decode cX10_sheet 1 = .ok (.invokestatic 72, 3) := by decide +kernel
theorem dX10_sheet_4 : decode cX10_sheet 4 = .ok (.ifCond .eq 9, 3) := by decide +kernel
theorem dX10_sheet_7 : decode cX10_sheet 7 = .ok (.aload_n 0, 1) := by decide +kernel
theorem dX10_sheet_8 : decode cX10_sheet 8 = .ok (.iconst (-1), 1) := by decide +kernel
theorem dX10_sheet_9 : decode cX10_sheet 9 = .ok (.invokevirtual 76, 3) := by decide +kernel
theorem dX10_sheet_12 : decode cX10_sheet 12 = .ok (.ireturn, 1) := by decide +kernel
theorem dX10_sheet_13 : decode cX10_sheet 13 = .ok (.iload_n 2, 1) := by decide +kernel
theorem dX10_sheet_14 : decode cX10_sheet 14 = .ok (.i2l, 1) := by decide +kernel
theorem dX10_sheet_15 : decode cX10_sheet 15 = .ok (.lconst 0, 1) := by decide +kernel
theorem dX10_sheet_16 : decode cX10_sheet 16 = .ok (.ldc2_w 80, 3) := by decide +kernel
theorem dX10_sheet_19 : decode cX10_sheet 19 = .ok (.invokestatic 82, 3) := by decide +kernel
theorem dX10_sheet_22 : decode cX10_sheet 22 = .ok (.ifCond .eq 9, 3) := by decide +kernel
theorem dX10_sheet_25 : decode cX10_sheet 25 = .ok (.iload_n 3, 1) := by decide +kernel
theorem dX10_sheet_26 : decode cX10_sheet 26 = .ok (.bipush 100, 2) := by decide +kernel
theorem dX10_sheet_28 : decode cX10_sheet 28 = .ok (.if_icmp .le 10, 3) := by decide +kernel
theorem dX10_sheet_31 : decode cX10_sheet 31 = .ok (.aload_n 0, 1) := by decide +kernel
theorem dX10_sheet_32 : decode cX10_sheet 32 = .ok (.bipush (-2), 2) := by decide +kernel
theorem dX10_sheet_34 : decode cX10_sheet 34 = .ok (.invokevirtual 76, 3) := by decide +kernel
theorem dX10_sheet_37 : decode cX10_sheet 37 = .ok (.ireturn, 1) := by decide +kernel
theorem dX10_sheet_38 : decode cX10_sheet 38 = .ok (.iload_n 3, 1) := by decide +kernel
theorem dX10_sheet_39 : decode cX10_sheet 39 = .ok (.ifCond .ge 9, 3) := by decide +kernel
theorem dX10_sheet_42 : decode cX10_sheet 42 = .ok (.aload_n 0, 1) := by decide +kernel
theorem dX10_sheet_43 : decode cX10_sheet 43 = .ok (.iconst 4, 1) := by decide +kernel
theorem dX10_sheet_44 : decode cX10_sheet 44 = .ok (.invokevirtual 86, 3) := by decide +kernel
theorem dX10_sheet_47 : decode cX10_sheet 47 = .ok (.ireturn, 1) := by decide +kernel
theorem dX10_sheet_48 : decode cX10_sheet 48 = .ok (.aload_n 0, 1) := by decide +kernel
theorem dX10_sheet_49 : decode cX10_sheet 49 = .ok (.getfield 50, 3) := by decide +kernel
theorem dX10_sheet_52 : decode cX10_sheet 52 = .ok (.iload_n 1, 1) := by decide +kernel
theorem dX10_sheet_53 : decode cX10_sheet 53 = .ok (.iload_n 3, 1) := by decide +kernel
theorem dX10_sheet_54 : decode cX10_sheet 54 = .ok (.iastore, 1) := by decide +kernel
theorem dX10_sheet_55 : decode cX10_sheet 55 = .ok (.aload_n 0, 1) := by decide +kernel
theorem dX10_sheet_56 : decode cX10_sheet 56 = .ok (.getfield 53, 3) := by decide +kernel
theorem dX10_sheet_59 : decode cX10_sheet 59 = .ok (.iload_n 1, 1) := by decide +kernel
theorem dX10_sheet_60 : decode cX10_sheet 60 = .ok (.iload_n 2, 1) := by decide +kernel
theorem dX10_sheet_61 : decode cX10_sheet 61 = .ok (.iastore, 1) := by decide +kernel
theorem dX10_sheet_62 : decode cX10_sheet 62 = .ok (.iconst 0, 1) := by decide +kernel
theorem dX10_sheet_63 : decode cX10_sheet 63 = .ok (.istore 4, 2) := by decide +kernel
theorem dX10_sheet_65 : decode cX10_sheet 65 = .ok (.iload 4, 2) := by decide +kernel
theorem dX10_sheet_67 : decode cX10_sheet 67 = .ok (.iload_n 3, 1) := by decide +kernel
theorem dX10_sheet_68 : decode cX10_sheet 68 = .ok (.if_icmp .ge 22, 3) := by decide +kernel
theorem dX10_sheet_71 : decode cX10_sheet 71 = .ok (.aload_n 0, 1) := by decide +kernel
theorem dX10_sheet_72 : decode cX10_sheet 72 = .ok (.getfield 56, 3) := by decide +kernel
theorem dX10_sheet_75 : decode cX10_sheet 75 = .ok (.bipush 100, 2) := by decide +kernel
theorem dX10_sheet_77 : decode cX10_sheet 77 = .ok (.iload_n 1, 1) := by decide +kernel
theorem dX10_sheet_78 : decode cX10_sheet 78 = .ok (.imul, 1) := by decide +kernel
theorem dX10_sheet_79 : decode cX10_sheet 79 = .ok (.iload 4, 2) := by decide +kernel
theorem dX10_sheet_81 : decode cX10_sheet 81 = .ok (.iadd, 1) := by decide +kernel
theorem dX10_sheet_82 : decode cX10_sheet 82 = .ok (.iconst 0, 1) := by decide +kernel
theorem dX10_sheet_83 : decode cX10_sheet 83 = .ok (.iastore, 1) := by decide +kernel
theorem dX10_sheet_84 : decode cX10_sheet 84 = .ok (.iinc 4 1, 3) := by decide +kernel
theorem dX10_sheet_87 : decode cX10_sheet 87 = .ok (.goto (-22), 3) := by decide +kernel
theorem dX10_sheet_90 : decode cX10_sheet 90 = .ok (.aload_n 0, 1) := by decide +kernel
theorem dX10_sheet_91 : decode cX10_sheet 91 = .ok (.iconst 1, 1) := by decide +kernel
theorem dX10_sheet_92 : decode cX10_sheet 92 = .ok (.invokevirtual 76, 3) := by decide +kernel
theorem dX10_sheet_95 : decode cX10_sheet 95 = .ok (.ireturn, 1) := by decide +kernel
theorem dX10_lose_0 : decode cX10_lose 0 = .ok (.iload_n 1, 1) := by decide +kernel
theorem dX10_lose_1 : decode cX10_lose 1 = .ok (.invokestatic 72, 3) := by decide +kernel
theorem dX10_lose_4 : decode cX10_lose 4 = .ok (.ifCond .eq 5, 3) := by decide +kernel
theorem dX10_lose_7 : decode cX10_lose 7 = .ok (.iconst (-1), 1) := by decide +kernel
theorem dX10_lose_8 : decode cX10_lose 8 = .ok (.ireturn, 1) := by decide +kernel
theorem dX10_lose_9 : decode cX10_lose 9 = .ok (.aload_n 0, 1) := by decide +kernel
theorem dX10_lose_10 : decode cX10_lose 10 = .ok (.getfield 50, 3) := by decide +kernel
theorem dX10_lose_13 : decode cX10_lose 13 = .ok (.iload_n 1, 1) := by decide +kernel
theorem dX10_lose_14 : decode cX10_lose 14 = .ok (.iaload, 1) := by decide +kernel
theorem dX10_lose_15 : decode cX10_lose 15 = .ok (.ifCond .ge 7, 3) := by decide +kernel
theorem dX10_lose_18 : decode cX10_lose 18 = .ok (.iconst 0, 1) := by decide +kernel
theorem dX10_lose_19 : decode cX10_lose 19 = .ok (.goto 4, 3) := by decide +kernel
theorem dX10_lose_22 : decode cX10_lose 22 = .ok (.iconst 1, 1) := by decide +kernel
theorem dX10_lose_23 : decode cX10_lose 23 = .ok (.istore_n 2, 1) := by decide +kernel
theorem dX10_lose_24 : decode cX10_lose 24 = .ok (.aload_n 0, 1) := by decide +kernel
theorem dX10_lose_25 : decode cX10_lose 25 = .ok (.getfield 50, 3) := by decide +kernel
theorem dX10_lose_28 : decode cX10_lose 28 = .ok (.iload_n 1, 1) := by decide +kernel
theorem dX10_lose_29 : decode cX10_lose 29 = .ok (.iconst (-1), 1) := by decide +kernel
theorem dX10_lose_30 : decode cX10_lose 30 = .ok (.iastore, 1) := by decide +kernel
theorem dX10_lose_31 : decode cX10_lose 31 = .ok (.iload_n 2, 1) := by decide +kernel
theorem dX10_lose_32 : decode cX10_lose 32 = .ok (.ireturn, 1) := by decide +kernel
theorem dX10_noCell_0 : decode cX10_noCell 0 = .ok (.aload_n 0, 1) := by decide +kernel
theorem dX10_noCell_1 : decode cX10_noCell 1 = .ok (.getfield 50, 3) := by decide +kernel
theorem dX10_noCell_4 : decode cX10_noCell 4 = .ok (.iload_n 1, 1) := by decide +kernel
theorem dX10_noCell_5 : decode cX10_noCell 5 = .ok (.iaload, 1) := by decide +kernel
theorem dX10_noCell_6 : decode cX10_noCell 6 = .ok (.ifCond .ge 7, 3) := by decide +kernel
theorem dX10_noCell_9 : decode cX10_noCell 9 = .ok (.iconst 1, 1) := by decide +kernel
theorem dX10_noCell_10 : decode cX10_noCell 10 = .ok (.goto 26, 3) := by decide +kernel
theorem dX10_noCell_13 : decode cX10_noCell 13 = .ok (.iload_n 2, 1) := by decide +kernel
theorem dX10_noCell_14 : decode cX10_noCell 14 = .ok (.i2l, 1) := by decide +kernel
theorem dX10_noCell_15 : decode cX10_noCell 15 = .ok (.lconst 0, 1) := by decide +kernel
theorem dX10_noCell_16 : decode cX10_noCell 16 = .ok (.aload_n 0, 1) := by decide +kernel
theorem dX10_noCell_17 : decode cX10_noCell 17 = .ok (.getfield 50, 3) := by decide +kernel
theorem dX10_noCell_20 : decode cX10_noCell 20 = .ok (.iload_n 1, 1) := by decide +kernel
theorem dX10_noCell_21 : decode cX10_noCell 21 = .ok (.iaload, 1) := by decide +kernel
theorem dX10_noCell_22 : decode cX10_noCell 22 = .ok (.i2l, 1) := by decide +kernel
theorem dX10_noCell_23 : decode cX10_noCell 23 = .ok (.lconst 1, 1) := by decide +kernel
theorem dX10_noCell_24 : decode cX10_noCell 24 = .ok (.lsub, 1) := by decide +kernel
theorem dX10_noCell_25 : decode cX10_noCell 25 = .ok (.invokestatic 82, 3) := by decide +kernel
theorem dX10_noCell_28 : decode cX10_noCell 28 = .ok (.ifCond .eq 7, 3) := by decide +kernel
theorem dX10_noCell_31 : decode cX10_noCell 31 = .ok (.iconst 0, 1) := by decide +kernel
theorem dX10_noCell_32 : decode cX10_noCell 32 = .ok (.goto 4, 3) := by decide +kernel
theorem dX10_noCell_35 : decode cX10_noCell 35 = .ok (.iconst 3, 1) := by decide +kernel
theorem dX10_noCell_36 : decode cX10_noCell 36 = .ok (.ireturn, 1) := by decide +kernel
theorem dX10_put_0 : decode cX10_put 0 = .ok (.iload_n 1, 1) := by decide +kernel
theorem dX10_put_1 : decode cX10_put 1 = .ok (.invokestatic 72, 3) := by decide +kernel
theorem dX10_put_4 : decode cX10_put 4 = .ok (.ifCond .eq 9, 3) := by decide +kernel
theorem dX10_put_7 : decode cX10_put 7 = .ok (.aload_n 0, 1) := by decide +kernel
theorem dX10_put_8 : decode cX10_put 8 = .ok (.iconst (-1), 1) := by decide +kernel
theorem dX10_put_9 : decode cX10_put 9 = .ok (.invokevirtual 76, 3) := by decide +kernel
theorem dX10_put_12 : decode cX10_put 12 = .ok (.ireturn, 1) := by decide +kernel
theorem dX10_put_13 : decode cX10_put 13 = .ok (.aload_n 0, 1) := by decide +kernel
theorem dX10_put_14 : decode cX10_put 14 = .ok (.iload_n 1, 1) := by decide +kernel
theorem dX10_put_15 : decode cX10_put 15 = .ok (.iload_n 2, 1) := by decide +kernel
theorem dX10_put_16 : decode cX10_put 16 = .ok (.invokevirtual 196, 3) := by decide +kernel
theorem dX10_put_19 : decode cX10_put 19 = .ok (.ifCond .le 14, 3) := by decide +kernel
theorem dX10_put_22 : decode cX10_put 22 = .ok (.aload_n 0, 1) := by decide +kernel
theorem dX10_put_23 : decode cX10_put 23 = .ok (.aload_n 0, 1) := by decide +kernel
theorem dX10_put_24 : decode cX10_put 24 = .ok (.iload_n 1, 1) := by decide +kernel
theorem dX10_put_25 : decode cX10_put 25 = .ok (.iload_n 2, 1) := by decide +kernel
theorem dX10_put_26 : decode cX10_put 26 = .ok (.invokevirtual 196, 3) := by decide +kernel
theorem dX10_put_29 : decode cX10_put 29 = .ok (.invokevirtual 86, 3) := by decide +kernel
theorem dX10_put_32 : decode cX10_put 32 = .ok (.ireturn, 1) := by decide +kernel
theorem dX10_put_33 : decode cX10_put 33 = .ok (.aload_n 0, 1) := by decide +kernel
theorem dX10_put_34 : decode cX10_put 34 = .ok (.getfield 56, 3) := by decide +kernel
theorem dX10_put_37 : decode cX10_put 37 = .ok (.bipush 100, 2) := by decide +kernel
theorem dX10_put_39 : decode cX10_put 39 = .ok (.iload_n 1, 1) := by decide +kernel
theorem dX10_put_40 : decode cX10_put 40 = .ok (.imul, 1) := by decide +kernel
theorem dX10_put_41 : decode cX10_put 41 = .ok (.iload_n 2, 1) := by decide +kernel
theorem dX10_put_42 : decode cX10_put 42 = .ok (.iadd, 1) := by decide +kernel
theorem dX10_put_43 : decode cX10_put 43 = .ok (.aload_n 0, 1) := by decide +kernel
theorem dX10_put_44 : decode cX10_put 44 = .ok (.getfield 53, 3) := by decide +kernel
theorem dX10_put_47 : decode cX10_put 47 = .ok (.iload_n 1, 1) := by decide +kernel
theorem dX10_put_48 : decode cX10_put 48 = .ok (.iaload, 1) := by decide +kernel
theorem dX10_put_49 : decode cX10_put 49 = .ok (.ifCond .ne 8, 3) := by decide +kernel
theorem dX10_put_52 : decode cX10_put 52 = .ok (.iload_n 3, 1) := by decide +kernel
theorem dX10_put_53 : decode cX10_put 53 = .ok (.i2b, 1) := by decide +kernel
theorem dX10_put_54 : decode cX10_put 54 = .ok (.goto 19, 3) := by decide +kernel
theorem dX10_put_57 : decode cX10_put 57 = .ok (.aload_n 0, 1) := by decide +kernel
theorem dX10_put_58 : decode cX10_put 58 = .ok (.getfield 53, 3) := by decide +kernel
theorem dX10_put_61 : decode cX10_put 61 = .ok (.iload_n 1, 1) := by decide +kernel
theorem dX10_put_62 : decode cX10_put 62 = .ok (.iaload, 1) := by decide +kernel
theorem dX10_put_63 : decode cX10_put 63 = .ok (.iconst 1, 1) := by decide +kernel
theorem dX10_put_64 : decode cX10_put 64 = .ok (.if_icmp .ne 8, 3) := by decide +kernel
theorem dX10_put_67 : decode cX10_put 67 = .ok (.iload_n 3, 1) := by decide +kernel
theorem dX10_put_68 : decode cX10_put 68 = .ok (.i2s, 1) := by decide +kernel
theorem dX10_put_69 : decode cX10_put 69 = .ok (.goto 4, 3) := by decide +kernel
theorem dX10_put_72 : decode cX10_put 72 = .ok (.iload_n 3, 1) := by decide +kernel
theorem dX10_put_73 : decode cX10_put 73 = .ok (.iastore, 1) := by decide +kernel
theorem dX10_put_74 : decode cX10_put 74 = .ok (.aload_n 0, 1) := by decide +kernel
theorem dX10_put_75 : decode cX10_put 75 = .ok (.iconst 1, 1) := by decide +kernel
theorem dX10_put_76 : decode cX10_put 76 = .ok (.invokevirtual 76, 3) := by decide +kernel
theorem dX10_put_79 : decode cX10_put 79 = .ok (.ireturn, 1) := by decide +kernel
theorem dX10_cell_0 : decode cX10_cell 0 = .ok (.aload_n 0, 1) := by decide +kernel
theorem dX10_cell_1 : decode cX10_cell 1 = .ok (.iconst 0, 1) := by decide +kernel
theorem dX10_cell_2 : decode cX10_cell 2 = .ok (.putfield 64, 3) := by decide +kernel
theorem dX10_cell_5 : decode cX10_cell 5 = .ok (.iload_n 1, 1) := by decide +kernel
theorem dX10_cell_6 : decode cX10_cell 6 = .ok (.invokestatic 72, 3) := by decide +kernel
theorem dX10_cell_9 : decode cX10_cell 9 = .ok (.ifCond .ne 15, 3) := by decide +kernel
theorem dX10_cell_12 : decode cX10_cell 12 = .ok (.iload_n 3, 1) := by decide +kernel
theorem dX10_cell_13 : decode cX10_cell 13 = .ok (.i2l, 1) := by decide +kernel
theorem dX10_cell_14 : decode cX10_cell 14 = .ok (.lconst 0, 1) := by decide +kernel
theorem dX10_cell_15 : decode cX10_cell 15 = .ok (.ldc2_w 80, 3) := by decide +kernel
theorem dX10_cell_18 : decode cX10_cell 18 = .ok (.invokestatic 82, 3) := by decide +kernel
theorem dX10_cell_21 : decode cX10_cell 21 = .ok (.ifCond .ne 7, 3) := by decide +kernel
theorem dX10_cell_24 : decode cX10_cell 24 = .ok (.invokestatic 68, 3) := by decide +kernel
theorem dX10_cell_27 : decode cX10_cell 27 = .ok (.lreturn, 1) := by decide +kernel
theorem dX10_cell_28 : decode cX10_cell 28 = .ok (.aload_n 0, 1) := by decide +kernel
theorem dX10_cell_29 : decode cX10_cell 29 = .ok (.getfield 50, 3) := by decide +kernel
theorem dX10_cell_32 : decode cX10_cell 32 = .ok (.iload_n 1, 1) := by decide +kernel
theorem dX10_cell_33 : decode cX10_cell 33 = .ok (.iaload, 1) := by decide +kernel
theorem dX10_cell_34 : decode cX10_cell 34 = .ok (.ifCond .lt 19, 3) := by decide +kernel
theorem dX10_cell_37 : decode cX10_cell 37 = .ok (.aload_n 0, 1) := by decide +kernel
theorem dX10_cell_38 : decode cX10_cell 38 = .ok (.getfield 53, 3) := by decide +kernel
theorem dX10_cell_41 : decode cX10_cell 41 = .ok (.iload_n 1, 1) := by decide +kernel
theorem dX10_cell_42 : decode cX10_cell 42 = .ok (.iaload, 1) := by decide +kernel
theorem dX10_cell_43 : decode cX10_cell 43 = .ok (.iload_n 3, 1) := by decide +kernel
theorem dX10_cell_44 : decode cX10_cell 44 = .ok (.if_icmp .eq 9, 3) := by decide +kernel
theorem dX10_cell_47 : decode cX10_cell 47 = .ok (.aload_n 0, 1) := by decide +kernel
theorem dX10_cell_48 : decode cX10_cell 48 = .ok (.iconst 2, 1) := by decide +kernel
theorem dX10_cell_49 : decode cX10_cell 49 = .ok (.invokevirtual 199, 3) := by decide +kernel
theorem dX10_cell_52 : decode cX10_cell 52 = .ok (.lreturn, 1) := by decide +kernel
theorem dX10_cell_53 : decode cX10_cell 53 = .ok (.aload_n 0, 1) := by decide +kernel
theorem dX10_cell_54 : decode cX10_cell 54 = .ok (.iload_n 1, 1) := by decide +kernel
theorem dX10_cell_55 : decode cX10_cell 55 = .ok (.iload_n 2, 1) := by decide +kernel
theorem dX10_cell_56 : decode cX10_cell 56 = .ok (.invokevirtual 196, 3) := by decide +kernel
theorem dX10_cell_59 : decode cX10_cell 59 = .ok (.ifCond .le 16, 3) := by decide +kernel
theorem dX10_cell_62 : decode cX10_cell 62 = .ok (.aload_n 0, 1) := by decide +kernel
theorem dX10_cell_63 : decode cX10_cell 63 = .ok (.aload_n 0, 1) := by decide +kernel
theorem dX10_cell_64 : decode cX10_cell 64 = .ok (.iload_n 1, 1) := by decide +kernel
theorem dX10_cell_65 : decode cX10_cell 65 = .ok (.iload_n 2, 1) := by decide +kernel
theorem dX10_cell_66 : decode cX10_cell 66 = .ok (.invokevirtual 196, 3) := by decide +kernel
theorem dX10_cell_69 : decode cX10_cell 69 = .ok (.invokevirtual 199, 3) := by decide +kernel
theorem dX10_cell_72 : decode cX10_cell 72 = .ok (.goto 15, 3) := by decide +kernel
theorem dX10_cell_75 : decode cX10_cell 75 = .ok (.aload_n 0, 1) := by decide +kernel
theorem dX10_cell_76 : decode cX10_cell 76 = .ok (.getfield 56, 3) := by decide +kernel
theorem dX10_cell_79 : decode cX10_cell 79 = .ok (.bipush 100, 2) := by decide +kernel
theorem dX10_cell_81 : decode cX10_cell 81 = .ok (.iload_n 1, 1) := by decide +kernel
theorem dX10_cell_82 : decode cX10_cell 82 = .ok (.imul, 1) := by decide +kernel
theorem dX10_cell_83 : decode cX10_cell 83 = .ok (.iload_n 2, 1) := by decide +kernel
theorem dX10_cell_84 : decode cX10_cell 84 = .ok (.iadd, 1) := by decide +kernel
theorem dX10_cell_85 : decode cX10_cell 85 = .ok (.iaload, 1) := by decide +kernel
theorem dX10_cell_86 : decode cX10_cell 86 = .ok (.i2l, 1) := by decide +kernel
theorem dX10_cell_87 : decode cX10_cell 87 = .ok (.lreturn, 1) := by decide +kernel
theorem dX10_isBeyond_0 : decode cX10_isBeyond 0 = .ok (.iload_n 0, 1) := by decide +kernel
theorem dX10_isBeyond_1 : decode cX10_isBeyond 1 = .ok (.ifCond .lt 19, 3) := by decide +kernel
theorem dX10_isBeyond_4 : decode cX10_isBeyond 4 = .ok (.lload_n 1, 1) := by decide +kernel
theorem dX10_isBeyond_5 : decode cX10_isBeyond 5 = .ok (.lconst 0, 1) := by decide +kernel
theorem dX10_isBeyond_6 : decode cX10_isBeyond 6 = .ok (.lcmp, 1) := by decide +kernel
theorem dX10_isBeyond_7 : decode cX10_isBeyond 7 = .ok (.ifCond .lt 13, 3) := by decide +kernel
theorem dX10_isBeyond_10 : decode cX10_isBeyond 10 = .ok (.iload_n 0, 1) := by decide +kernel
theorem dX10_isBeyond_11 : decode cX10_isBeyond 11 = .ok (.i2l, 1) := by decide +kernel
theorem dX10_isBeyond_12 : decode cX10_isBeyond 12 = .ok (.lload_n 1, 1) := by decide +kernel
theorem dX10_isBeyond_13 : decode cX10_isBeyond 13 = .ok (.ladd, 1) := by decide +kernel
theorem dX10_isBeyond_14 : decode cX10_isBeyond 14 = .ok (.iload_n 3, 1) := by decide +kernel
theorem dX10_isBeyond_15 : decode cX10_isBeyond 15 = .ok (.i2l, 1) := by decide +kernel
theorem dX10_isBeyond_16 : decode cX10_isBeyond 16 = .ok (.lcmp, 1) := by decide +kernel
theorem dX10_isBeyond_17 : decode cX10_isBeyond 17 = .ok (.ifCond .le 7, 3) := by decide +kernel
theorem dX10_isBeyond_20 : decode cX10_isBeyond 20 = .ok (.iconst 1, 1) := by decide +kernel
theorem dX10_isBeyond_21 : decode cX10_isBeyond 21 = .ok (.goto 4, 3) := by decide +kernel
theorem dX10_isBeyond_24 : decode cX10_isBeyond 24 = .ok (.iconst 0, 1) := by decide +kernel
theorem dX10_isBeyond_25 : decode cX10_isBeyond 25 = .ok (.ireturn, 1) := by decide +kernel
theorem dX10_copy_0 : decode cX10_copy 0 = .ok (.iload_n 1, 1) := by decide +kernel
theorem dX10_copy_1 : decode cX10_copy 1 = .ok (.invokestatic 72, 3) := by decide +kernel
theorem dX10_copy_4 : decode cX10_copy 4 = .ok (.ifCond .ne 10, 3) := by decide +kernel
theorem dX10_copy_7 : decode cX10_copy 7 = .ok (.iload_n 3, 1) := by decide +kernel
theorem dX10_copy_8 : decode cX10_copy 8 = .ok (.invokestatic 72, 3) := by decide +kernel
theorem dX10_copy_11 : decode cX10_copy 11 = .ok (.ifCond .eq 9, 3) := by decide +kernel
theorem dX10_copy_14 : decode cX10_copy 14 = .ok (.aload_n 0, 1) := by decide +kernel
theorem dX10_copy_15 : decode cX10_copy 15 = .ok (.iconst (-1), 1) := by decide +kernel
theorem dX10_copy_16 : decode cX10_copy 16 = .ok (.invokevirtual 76, 3) := by decide +kernel
theorem dX10_copy_19 : decode cX10_copy 19 = .ok (.ireturn, 1) := by decide +kernel
theorem dX10_copy_20 : decode cX10_copy 20 = .ok (.aload_n 0, 1) := by decide +kernel
theorem dX10_copy_21 : decode cX10_copy 21 = .ok (.getfield 50, 3) := by decide +kernel
theorem dX10_copy_24 : decode cX10_copy 24 = .ok (.iload_n 1, 1) := by decide +kernel
theorem dX10_copy_25 : decode cX10_copy 25 = .ok (.iaload, 1) := by decide +kernel
theorem dX10_copy_26 : decode cX10_copy 26 = .ok (.ifCond .lt 12, 3) := by decide +kernel
theorem dX10_copy_29 : decode cX10_copy 29 = .ok (.aload_n 0, 1) := by decide +kernel
theorem dX10_copy_30 : decode cX10_copy 30 = .ok (.getfield 50, 3) := by decide +kernel
theorem dX10_copy_33 : decode cX10_copy 33 = .ok (.iload_n 3, 1) := by decide +kernel
theorem dX10_copy_34 : decode cX10_copy 34 = .ok (.iaload, 1) := by decide +kernel
theorem dX10_copy_35 : decode cX10_copy 35 = .ok (.ifCond .ge 9, 3) := by decide +kernel
theorem dX10_copy_38 : decode cX10_copy 38 = .ok (.aload_n 0, 1) := by decide +kernel
theorem dX10_copy_39 : decode cX10_copy 39 = .ok (.iconst 1, 1) := by decide +kernel
theorem dX10_copy_40 : decode cX10_copy 40 = .ok (.invokevirtual 86, 3) := by decide +kernel
theorem dX10_copy_43 : decode cX10_copy 43 = .ok (.ireturn, 1) := by decide +kernel
theorem dX10_copy_44 : decode cX10_copy 44 = .ok (.aload_n 0, 1) := by decide +kernel
theorem dX10_copy_45 : decode cX10_copy 45 = .ok (.getfield 53, 3) := by decide +kernel
theorem dX10_copy_48 : decode cX10_copy 48 = .ok (.iload_n 1, 1) := by decide +kernel
theorem dX10_copy_49 : decode cX10_copy 49 = .ok (.iaload, 1) := by decide +kernel
theorem dX10_copy_50 : decode cX10_copy 50 = .ok (.aload_n 0, 1) := by decide +kernel
theorem dX10_copy_51 : decode cX10_copy 51 = .ok (.getfield 53, 3) := by decide +kernel
theorem dX10_copy_54 : decode cX10_copy 54 = .ok (.iload_n 3, 1) := by decide +kernel
theorem dX10_copy_55 : decode cX10_copy 55 = .ok (.iaload, 1) := by decide +kernel
theorem dX10_copy_56 : decode cX10_copy 56 = .ok (.if_icmp .eq 9, 3) := by decide +kernel
theorem dX10_copy_59 : decode cX10_copy 59 = .ok (.aload_n 0, 1) := by decide +kernel
theorem dX10_copy_60 : decode cX10_copy 60 = .ok (.iconst 2, 1) := by decide +kernel
theorem dX10_copy_61 : decode cX10_copy 61 = .ok (.invokevirtual 86, 3) := by decide +kernel
theorem dX10_copy_64 : decode cX10_copy 64 = .ok (.ireturn, 1) := by decide +kernel
theorem dX10_copy_65 : decode cX10_copy 65 = .ok (.iload_n 2, 1) := by decide +kernel
theorem dX10_copy_66 : decode cX10_copy 66 = .ok (.iload 5, 2) := by decide +kernel
theorem dX10_copy_68 : decode cX10_copy 68 = .ok (.i2l, 1) := by decide +kernel
theorem dX10_copy_69 : decode cX10_copy 69 = .ok (.aload_n 0, 1) := by decide +kernel
theorem dX10_copy_70 : decode cX10_copy 70 = .ok (.getfield 50, 3) := by decide +kernel
theorem dX10_copy_73 : decode cX10_copy 73 = .ok (.iload_n 1, 1) := by decide +kernel
theorem dX10_copy_74 : decode cX10_copy 74 = .ok (.iaload, 1) := by decide +kernel
theorem dX10_copy_75 : decode cX10_copy 75 = .ok (.invokestatic 89, 3) := by decide +kernel
theorem dX10_copy_78 : decode cX10_copy 78 = .ok (.ifCond .ne 20, 3) := by decide +kernel
theorem dX10_copy_81 : decode cX10_copy 81 = .ok (.iload 4, 2) := by decide +kernel
theorem dX10_copy_83 : decode cX10_copy 83 = .ok (.iload 5, 2) := by decide +kernel
theorem dX10_copy_85 : decode cX10_copy 85 = .ok (.i2l, 1) := by decide +kernel
theorem dX10_copy_86 : decode cX10_copy 86 = .ok (.aload_n 0, 1) := by decide +kernel
theorem dX10_copy_87 : decode cX10_copy 87 = .ok (.getfield 50, 3) := by decide +kernel
theorem dX10_copy_90 : decode cX10_copy 90 = .ok (.iload_n 3, 1) := by decide +kernel
theorem dX10_copy_91 : decode cX10_copy 91 = .ok (.iaload, 1) := by decide +kernel
theorem dX10_copy_92 : decode cX10_copy 92 = .ok (.invokestatic 89, 3) := by decide +kernel
theorem dX10_copy_95 : decode cX10_copy 95 = .ok (.ifCond .eq 9, 3) := by decide +kernel
theorem dX10_copy_98 : decode cX10_copy 98 = .ok (.aload_n 0, 1) := by decide +kernel
theorem dX10_copy_99 : decode cX10_copy 99 = .ok (.iconst 3, 1) := by decide +kernel
theorem dX10_copy_100 : decode cX10_copy 100 = .ok (.invokevirtual 86, 3) := by decide +kernel
theorem dX10_copy_103 : decode cX10_copy 103 = .ok (.ireturn, 1) := by decide +kernel
theorem dX10_copy_104 : decode cX10_copy 104 = .ok (.iconst 0, 1) := by decide +kernel
theorem dX10_copy_105 : decode cX10_copy 105 = .ok (.istore 6, 2) := by decide +kernel
theorem dX10_copy_107 : decode cX10_copy 107 = .ok (.iload 6, 2) := by decide +kernel
theorem dX10_copy_109 : decode cX10_copy 109 = .ok (.iload 5, 2) := by decide +kernel
theorem dX10_copy_111 : decode cX10_copy 111 = .ok (.if_icmp .ge 30, 3) := by decide +kernel
theorem dX10_copy_114 : decode cX10_copy 114 = .ok (.aload_n 0, 1) := by decide +kernel
theorem dX10_copy_115 : decode cX10_copy 115 = .ok (.getfield 59, 3) := by decide +kernel
theorem dX10_copy_118 : decode cX10_copy 118 = .ok (.iload 6, 2) := by decide +kernel
theorem dX10_copy_120 : decode cX10_copy 120 = .ok (.aload_n 0, 1) := by decide +kernel
theorem dX10_copy_121 : decode cX10_copy 121 = .ok (.getfield 56, 3) := by decide +kernel
theorem dX10_copy_124 : decode cX10_copy 124 = .ok (.bipush 100, 2) := by decide +kernel
theorem dX10_copy_126 : decode cX10_copy 126 = .ok (.iload_n 1, 1) := by decide +kernel
theorem dX10_copy_127 : decode cX10_copy 127 = .ok (.imul, 1) := by decide +kernel
theorem dX10_copy_128 : decode cX10_copy 128 = .ok (.iload_n 2, 1) := by decide +kernel
theorem dX10_copy_129 : decode cX10_copy 129 = .ok (.iadd, 1) := by decide +kernel
theorem dX10_copy_130 : decode cX10_copy 130 = .ok (.iload 6, 2) := by decide +kernel
theorem dX10_copy_132 : decode cX10_copy 132 = .ok (.iadd, 1) := by decide +kernel
theorem dX10_copy_133 : decode cX10_copy 133 = .ok (.iaload, 1) := by decide +kernel
theorem dX10_copy_134 : decode cX10_copy 134 = .ok (.iastore, 1) := by decide +kernel
theorem dX10_copy_135 : decode cX10_copy 135 = .ok (.iinc 6 1, 3) := by decide +kernel
theorem dX10_copy_138 : decode cX10_copy 138 = .ok (.goto (-31), 3) := by decide +kernel
theorem dX10_copy_141 : decode cX10_copy 141 = .ok (.iconst 0, 1) := by decide +kernel
theorem dX10_copy_142 : decode cX10_copy 142 = .ok (.istore 6, 2) := by decide +kernel
theorem dX10_copy_144 : decode cX10_copy 144 = .ok (.iload 6, 2) := by decide +kernel
theorem dX10_copy_146 : decode cX10_copy 146 = .ok (.iload 5, 2) := by decide +kernel
theorem dX10_copy_148 : decode cX10_copy 148 = .ok (.if_icmp .ge 31, 3) := by decide +kernel
theorem dX10_copy_151 : decode cX10_copy 151 = .ok (.aload_n 0, 1) := by decide +kernel
theorem dX10_copy_152 : decode cX10_copy 152 = .ok (.getfield 56, 3) := by decide +kernel
theorem dX10_copy_155 : decode cX10_copy 155 = .ok (.bipush 100, 2) := by decide +kernel
theorem dX10_copy_157 : decode cX10_copy 157 = .ok (.iload_n 3, 1) := by decide +kernel
theorem dX10_copy_158 : decode cX10_copy 158 = .ok (.imul, 1) := by decide +kernel
theorem dX10_copy_159 : decode cX10_copy 159 = .ok (.iload 4, 2) := by decide +kernel
theorem dX10_copy_161 : decode cX10_copy 161 = .ok (.iadd, 1) := by decide +kernel
theorem dX10_copy_162 : decode cX10_copy 162 = .ok (.iload 6, 2) := by decide +kernel
theorem dX10_copy_164 : decode cX10_copy 164 = .ok (.iadd, 1) := by decide +kernel
theorem dX10_copy_165 : decode cX10_copy 165 = .ok (.aload_n 0, 1) := by decide +kernel
theorem dX10_copy_166 : decode cX10_copy 166 = .ok (.getfield 59, 3) := by decide +kernel
theorem dX10_copy_169 : decode cX10_copy 169 = .ok (.iload 6, 2) := by decide +kernel
theorem dX10_copy_171 : decode cX10_copy 171 = .ok (.iaload, 1) := by decide +kernel
theorem dX10_copy_172 : decode cX10_copy 172 = .ok (.iastore, 1) := by decide +kernel
theorem dX10_copy_173 : decode cX10_copy 173 = .ok (.iinc 6 1, 3) := by decide +kernel
theorem dX10_copy_176 : decode cX10_copy 176 = .ok (.goto (-32), 3) := by decide +kernel
theorem dX10_copy_179 : decode cX10_copy 179 = .ok (.aload_n 0, 1) := by decide +kernel
theorem dX10_copy_180 : decode cX10_copy 180 = .ok (.iload 5, 2) := by decide +kernel
theorem dX10_copy_182 : decode cX10_copy 182 = .ok (.invokevirtual 76, 3) := by decide +kernel
theorem dX10_copy_185 : decode cX10_copy 185 = .ok (.ireturn, 1) := by decide +kernel
theorem dX10_traced_0 : decode cX10_traced 0 = .ok (.aload_n 0, 1) := by decide +kernel
theorem dX10_traced_1 : decode cX10_traced 1 = .ok (.bipush 31, 2) := by decide +kernel
theorem dX10_traced_3 : decode cX10_traced 3 = .ok (.aload_n 0, 1) := by decide +kernel
theorem dX10_traced_4 : decode cX10_traced 4 = .ok (.getfield 203, 3) := by decide +kernel
theorem dX10_traced_7 : decode cX10_traced 7 = .ok (.imul, 1) := by decide +kernel
theorem dX10_traced_8 : decode cX10_traced 8 = .ok (.iload_n 1, 1) := by decide +kernel
theorem dX10_traced_9 : decode cX10_traced 9 = .ok (.iadd, 1) := by decide +kernel
theorem dX10_traced_10 : decode cX10_traced 10 = .ok (.putfield 203, 3) := by decide +kernel
theorem dX10_traced_13 : decode cX10_traced 13 = .ok (.return_, 1) := by decide +kernel
theorem dX10_tell_0 : decode cX10_tell 0 = .ok (.aload_n 0, 1) := by decide +kernel
theorem dX10_tell_1 : decode cX10_tell 1 = .ok (.iload_n 1, 1) := by decide +kernel
theorem dX10_tell_2 : decode cX10_tell 2 = .ok (.invokevirtual 127, 3) := by decide +kernel
theorem dX10_tell_5 : decode cX10_tell 5 = .ok (.ifCond .eq 5, 3) := by decide +kernel
theorem dX10_tell_8 : decode cX10_tell 8 = .ok (.iconst (-1), 1) := by decide +kernel
theorem dX10_tell_9 : decode cX10_tell 9 = .ok (.ireturn, 1) := by decide +kernel
theorem dX10_tell_10 : decode cX10_tell 10 = .ok (.aload_n 0, 1) := by decide +kernel
theorem dX10_tell_11 : decode cX10_tell 11 = .ok (.getfield 7, 3) := by decide +kernel
theorem dX10_tell_14 : decode cX10_tell 14 = .ok (.iload_n 1, 1) := by decide +kernel
theorem dX10_tell_15 : decode cX10_tell 15 = .ok (.iaload, 1) := by decide +kernel
theorem dX10_tell_16 : decode cX10_tell 16 = .ok (.istore_n 2, 1) := by decide +kernel
theorem dX10_tell_17 : decode cX10_tell 17 = .ok (.iload_n 2, 1) := by decide +kernel
theorem dX10_tell_18 : decode cX10_tell 18 = .ok (.iconst 2, 1) := by decide +kernel
theorem dX10_tell_19 : decode cX10_tell 19 = .ok (.if_icmp .ne 8, 3) := by decide +kernel
theorem dX10_tell_22 : decode cX10_tell 22 = .ok (.aload_n 0, 1) := by decide +kernel
theorem dX10_tell_23 : decode cX10_tell 23 = .ok (.iconst 3, 1) := by decide +kernel
theorem dX10_tell_24 : decode cX10_tell 24 = .ok (.invokevirtual 206, 3) := by decide +kernel
theorem dX10_tell_27 : decode cX10_tell 27 = .ok (.iload_n 2, 1) := by decide +kernel
theorem dX10_tell_28 : decode cX10_tell 28 = .ok (.ifCond .le 8, 3) := by decide +kernel
theorem dX10_tell_31 : decode cX10_tell 31 = .ok (.aload_n 0, 1) := by decide +kernel
theorem dX10_tell_32 : decode cX10_tell 32 = .ok (.iconst 2, 1) := by decide +kernel
theorem dX10_tell_33 : decode cX10_tell 33 = .ok (.invokevirtual 206, 3) := by decide +kernel
theorem dX10_tell_36 : decode cX10_tell 36 = .ok (.aload_n 0, 1) := by decide +kernel
theorem dX10_tell_37 : decode cX10_tell 37 = .ok (.iconst 1, 1) := by decide +kernel
theorem dX10_tell_38 : decode cX10_tell 38 = .ok (.invokevirtual 206, 3) := by decide +kernel
theorem dX10_tell_41 : decode cX10_tell 41 = .ok (.iload_n 2, 1) := by decide +kernel
theorem dX10_tell_42 : decode cX10_tell 42 = .ok (.iconst 2, 1) := by decide +kernel
theorem dX10_tell_43 : decode cX10_tell 43 = .ok (.if_icmp .ne 8, 3) := by decide +kernel
theorem dX10_tell_46 : decode cX10_tell 46 = .ok (.aload_n 0, 1) := by decide +kernel
theorem dX10_tell_47 : decode cX10_tell 47 = .ok (.iconst 1, 1) := by decide +kernel
theorem dX10_tell_48 : decode cX10_tell 48 = .ok (.invokevirtual 206, 3) := by decide +kernel
theorem dX10_tell_51 : decode cX10_tell 51 = .ok (.aload_n 0, 1) := by decide +kernel
theorem dX10_tell_52 : decode cX10_tell 52 = .ok (.getfield 16, 3) := by decide +kernel
theorem dX10_tell_55 : decode cX10_tell 55 = .ok (.iload_n 1, 1) := by decide +kernel
theorem dX10_tell_56 : decode cX10_tell 56 = .ok (.iaload, 1) := by decide +kernel
theorem dX10_tell_57 : decode cX10_tell 57 = .ok (.istore_n 3, 1) := by decide +kernel
theorem dX10_tell_58 : decode cX10_tell 58 = .ok (.iload_n 2, 1) := by decide +kernel
theorem dX10_tell_59 : decode cX10_tell 59 = .ok (.ifCond .ne 7, 3) := by decide +kernel
theorem dX10_tell_62 : decode cX10_tell 62 = .ok (.iload_n 3, 1) := by decide +kernel
theorem dX10_tell_63 : decode cX10_tell 63 = .ok (.goto 21, 3) := by decide +kernel
theorem dX10_tell_66 : decode cX10_tell 66 = .ok (.iload_n 2, 1) := by decide +kernel
theorem dX10_tell_67 : decode cX10_tell 67 = .ok (.iconst 1, 1) := by decide +kernel
theorem dX10_tell_68 : decode cX10_tell 68 = .ok (.if_icmp .ne 10, 3) := by decide +kernel
theorem dX10_tell_71 : decode cX10_tell 71 = .ok (.iload_n 3, 1) := by decide +kernel
theorem dX10_tell_72 : decode cX10_tell 72 = .ok (.bipush 100, 2) := by decide +kernel
theorem dX10_tell_74 : decode cX10_tell 74 = .ok (.iadd, 1) := by decide +kernel
theorem dX10_tell_75 : decode cX10_tell 75 = .ok (.goto 9, 3) := by decide +kernel
theorem dX10_tell_78 : decode cX10_tell 78 = .ok (.iconst 2, 1) := by decide +kernel
theorem dX10_tell_79 : decode cX10_tell 79 = .ok (.iload_n 3, 1) := by decide +kernel
theorem dX10_tell_80 : decode cX10_tell 80 = .ok (.imul, 1) := by decide +kernel
theorem dX10_tell_81 : decode cX10_tell 81 = .ok (.bipush 100, 2) := by decide +kernel
theorem dX10_tell_83 : decode cX10_tell 83 = .ok (.iadd, 1) := by decide +kernel
theorem dX10_tell_84 : decode cX10_tell 84 = .ok (.ireturn, 1) := by decide +kernel
theorem dX10_mourn_0 : decode cX10_mourn 0 = .ok (.aload_n 0, 1) := by decide +kernel
theorem dX10_mourn_1 : decode cX10_mourn 1 = .ok (.iload_n 1, 1) := by decide +kernel
theorem dX10_mourn_2 : decode cX10_mourn 2 = .ok (.invokevirtual 127, 3) := by decide +kernel
theorem dX10_mourn_5 : decode cX10_mourn 5 = .ok (.ifCond .eq 5, 3) := by decide +kernel
theorem dX10_mourn_8 : decode cX10_mourn 8 = .ok (.iconst (-1), 1) := by decide +kernel
theorem dX10_mourn_9 : decode cX10_mourn 9 = .ok (.ireturn, 1) := by decide +kernel
theorem dX10_mourn_10 : decode cX10_mourn 10 = .ok (.aload_n 0, 1) := by decide +kernel
theorem dX10_mourn_11 : decode cX10_mourn 11 = .ok (.aload_n 0, 1) := by decide +kernel
theorem dX10_mourn_12 : decode cX10_mourn 12 = .ok (.getfield 7, 3) := by decide +kernel
theorem dX10_mourn_15 : decode cX10_mourn 15 = .ok (.iload_n 1, 1) := by decide +kernel
theorem dX10_mourn_16 : decode cX10_mourn 16 = .ok (.iaload, 1) := by decide +kernel
theorem dX10_mourn_17 : decode cX10_mourn 17 = .ok (.iconst 2, 1) := by decide +kernel
theorem dX10_mourn_18 : decode cX10_mourn 18 = .ok (.if_icmp .ne 7, 3) := by decide +kernel
theorem dX10_mourn_21 : decode cX10_mourn 21 = .ok (.iconst 5, 1) := by decide +kernel
theorem dX10_mourn_22 : decode cX10_mourn 22 = .ok (.goto 4, 3) := by decide +kernel
theorem dX10_mourn_25 : decode cX10_mourn 25 = .ok (.iconst 4, 1) := by decide +kernel
theorem dX10_mourn_26 : decode cX10_mourn 26 = .ok (.invokevirtual 206, 3) := by decide +kernel
theorem dX10_mourn_29 : decode cX10_mourn 29 = .ok (.aload_n 0, 1) := by decide +kernel
theorem dX10_mourn_30 : decode cX10_mourn 30 = .ok (.getfield 7, 3) := by decide +kernel
theorem dX10_mourn_33 : decode cX10_mourn 33 = .ok (.iload_n 1, 1) := by decide +kernel
theorem dX10_mourn_34 : decode cX10_mourn 34 = .ok (.iaload, 1) := by decide +kernel
theorem dX10_mourn_35 : decode cX10_mourn 35 = .ok (.iconst 2, 1) := by decide +kernel
theorem dX10_mourn_36 : decode cX10_mourn 36 = .ok (.if_icmp .ne 8, 3) := by decide +kernel
theorem dX10_mourn_39 : decode cX10_mourn 39 = .ok (.bipush 80, 2) := by decide +kernel
theorem dX10_mourn_41 : decode cX10_mourn 41 = .ok (.goto 4, 3) := by decide +kernel
theorem dX10_mourn_44 : decode cX10_mourn 44 = .ok (.iload_n 1, 1) := by decide +kernel
theorem dX10_mourn_45 : decode cX10_mourn 45 = .ok (.ireturn, 1) := by decide +kernel
theorem dX10_as_0 : decode cX10_as 0 = .ok (.aload_n 0, 1) := by decide +kernel
theorem dX10_as_1 : decode cX10_as 1 = .ok (.iload_n 1, 1) := by decide +kernel
theorem dX10_as_2 : decode cX10_as 2 = .ok (.invokevirtual 127, 3) := by decide +kernel
theorem dX10_as_5 : decode cX10_as 5 = .ok (.ifCond .eq 9, 3) := by decide +kernel
theorem dX10_as_8 : decode cX10_as 8 = .ok (.aload_n 0, 1) := by decide +kernel
theorem dX10_as_9 : decode cX10_as 9 = .ok (.iconst (-1), 1) := by decide +kernel
theorem dX10_as_10 : decode cX10_as 10 = .ok (.invokevirtual 76, 3) := by decide +kernel
theorem dX10_as_13 : decode cX10_as 13 = .ok (.ireturn, 1) := by decide +kernel
theorem dX10_as_14 : decode cX10_as 14 = .ok (.iload_n 2, 1) := by decide +kernel
theorem dX10_as_15 : decode cX10_as 15 = .ok (.i2l, 1) := by decide +kernel
theorem dX10_as_16 : decode cX10_as 16 = .ok (.lconst 0, 1) := by decide +kernel
theorem dX10_as_17 : decode cX10_as 17 = .ok (.ldc2_w 80, 3) := by decide +kernel
theorem dX10_as_20 : decode cX10_as 20 = .ok (.invokestatic 82, 3) := by decide +kernel
theorem dX10_as_23 : decode cX10_as 23 = .ok (.ifCond .ne 10, 3) := by decide +kernel
theorem dX10_as_26 : decode cX10_as 26 = .ok (.aload_n 0, 1) := by decide +kernel
theorem dX10_as_27 : decode cX10_as 27 = .ok (.bipush (-2), 2) := by decide +kernel
theorem dX10_as_29 : decode cX10_as 29 = .ok (.invokevirtual 76, 3) := by decide +kernel
theorem dX10_as_32 : decode cX10_as 32 = .ok (.ireturn, 1) := by decide +kernel
theorem dX10_as_33 : decode cX10_as 33 = .ok (.aload_n 0, 1) := by decide +kernel
theorem dX10_as_34 : decode cX10_as 34 = .ok (.getfield 7, 3) := by decide +kernel
theorem dX10_as_37 : decode cX10_as 37 = .ok (.iload_n 1, 1) := by decide +kernel
theorem dX10_as_38 : decode cX10_as 38 = .ok (.iaload, 1) := by decide +kernel
theorem dX10_as_39 : decode cX10_as 39 = .ok (.iload_n 2, 1) := by decide +kernel
theorem dX10_as_40 : decode cX10_as 40 = .ok (.if_icmp .lt 11, 3) := by decide +kernel
theorem dX10_as_43 : decode cX10_as 43 = .ok (.aload_n 0, 1) := by decide +kernel
theorem dX10_as_44 : decode cX10_as 44 = .ok (.iconst 1, 1) := by decide +kernel
theorem dX10_as_45 : decode cX10_as 45 = .ok (.invokevirtual 76, 3) := by decide +kernel
theorem dX10_as_48 : decode cX10_as 48 = .ok (.goto 8, 3) := by decide +kernel
theorem dX10_as_51 : decode cX10_as 51 = .ok (.aload_n 0, 1) := by decide +kernel
theorem dX10_as_52 : decode cX10_as 52 = .ok (.iconst 2, 1) := by decide +kernel
theorem dX10_as_53 : decode cX10_as 53 = .ok (.invokevirtual 86, 3) := by decide +kernel
theorem dX10_as_56 : decode cX10_as 56 = .ok (.ireturn, 1) := by decide +kernel
theorem dX10_trace_0 : decode cX10_trace 0 = .ok (.aload_n 0, 1) := by decide +kernel
theorem dX10_trace_1 : decode cX10_trace 1 = .ok (.getfield 203, 3) := by decide +kernel
theorem dX10_trace_4 : decode cX10_trace 4 = .ok (.ireturn, 1) := by decide +kernel
theorem dX10_fault_0 : decode cX10_fault 0 = .ok (.aload_n 0, 1) := by decide +kernel
theorem dX10_fault_1 : decode cX10_fault 1 = .ok (.getfield 64, 3) := by decide +kernel
theorem dX10_fault_4 : decode cX10_fault 4 = .ok (.ireturn, 1) := by decide +kernel
theorem dX10_many_0 : decode cX10_many 0 = .ok (.aload_n 0, 1) := by decide +kernel
theorem dX10_many_1 : decode cX10_many 1 = .ok (.getfield 93, 3) := by decide +kernel
theorem dX10_many_4 : decode cX10_many 4 = .ok (.ireturn, 1) := by decide +kernel
theorem dJ9_min_7cf53_0 : decode cJ9_min_7cf53 0 = .ok (.iload_n 0, 1) := by decide +kernel
theorem dJ9_min_7cf53_1 : decode cJ9_min_7cf53 1 = .ok (.iload_n 1, 1) := by decide +kernel
theorem dJ9_min_7cf53_2 : decode cJ9_min_7cf53 2 = .ok (.if_icmp .gt 7, 3) := by decide +kernel
theorem dJ9_min_7cf53_5 : decode cJ9_min_7cf53 5 = .ok (.iload_n 0, 1) := by decide +kernel
theorem dJ9_min_7cf53_6 : decode cJ9_min_7cf53 6 = .ok (.goto 4, 3) := by decide +kernel
theorem dJ9_min_7cf53_9 : decode cJ9_min_7cf53 9 = .ok (.iload_n 1, 1) := by decide +kernel
theorem dJ9_min_7cf53_10 : decode cJ9_min_7cf53 10 = .ok (.ireturn, 1) := by decide +kernel
