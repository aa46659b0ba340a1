theorem dX10_doesLive_12 : decode cX10_doesLive 12 = .ok (.ifCond .ne 7, 3) := by decide +kernel
theorem dX10_doesLive_15 : decode cX10_doesLive 15 = .ok (.iconst 0, 1) := by decide +kernel
theorem dX10_doesLive_16 : decode cX10_doesLive 16 = .ok (.goto 5, 3) := by decide +kernel
theorem dX10_doesLive_19 : decode cX10_doesLive 19 = .ok (.bipush 10, 2) := by decide +kernel
theorem dX10_doesLive_21 : decode cX10_doesLive 21 = .ok (.iadd, 1) := by decide +kernel
theorem dX10_doesLive_22 : decode cX10_doesLive 22 = .ok (.istore 4, 2) := by decide +kernel
theorem dX10_doesLive_24 : decode cX10_doesLive 24 = .ok (.aload_n 0, 1) := by decide +kernel
theorem dX10_doesLive_25 : decode cX10_doesLive 25 = .ok (.getfield 7, 3) := by decide +kernel
theorem dX10_doesLive_28 : decode cX10_doesLive 28 = .ok (.iload_n 1, 1) := by decide +kernel
theorem dX10_doesLive_29 : decode cX10_doesLive 29 = .ok (.iaload, 1) := by decide +kernel
theorem dX10_doesLive_30 : decode cX10_doesLive 30 = .ok (.iconst 2, 1) := by decide +kernel
theorem dX10_doesLive_31 : decode cX10_doesLive 31 = .ok (.if_icmp .eq 13, 3) := by decide +kernel
theorem dX10_doesLive_34 : decode cX10_doesLive 34 = .ok (.aload_n 0, 1) := by decide +kernel
theorem dX10_doesLive_35 : decode cX10_doesLive 35 = .ok (.getfield 13, 3) := by decide +kernel
theorem dX10_doesLive_38 : decode cX10_doesLive 38 = .ok (.iload_n 1, 1) := by decide +kernel
theorem dX10_doesLive_39 : decode cX10_doesLive 39 = .ok (.iaload, 1) := by decide +kernel
theorem dX10_doesLive_40 : decode cX10_doesLive 40 = .ok (.iload_n 2, 1) := by decide +kernel
theorem dX10_doesLive_41 : decode cX10_doesLive 41 = .ok (.if_icmp .ne 23, 3) := by decide +kernel
theorem dX10_doesLive_44 : decode cX10_doesLive 44 = .ok (.iload_n 3, 1) := by decide +kernel
theorem dX10_doesLive_45 : decode cX10_doesLive 45 = .ok (.aload_n 0, 1) := by decide +kernel
theorem dX10_doesLive_46 : decode cX10_doesLive 46 = .ok (.getfield 19, 3) := by decide +kernel
theorem dX10_doesLive_49 : decode cX10_doesLive 49 = .ok (.iload_n 1, 1) := by decide +kernel
theorem dX10_doesLive_50 : decode cX10_doesLive 50 = .ok (.iaload, 1) := by decide +kernel
theorem dX10_doesLive_51 : decode cX10_doesLive 51 = .ok (.if_icmp .lt 13, 3) := by decide +kernel
theorem dX10_doesLive_54 : decode cX10_doesLive 54 = .ok (.iload_n 3, 1) := by decide +kernel
theorem dX10_doesLive_55 : decode cX10_doesLive 55 = .ok (.iload 4, 2) := by decide +kernel
theorem dX10_doesLive_57 : decode cX10_doesLive 57 = .ok (.if_icmp .ge 7, 3) := by decide +kernel
theorem dX10_doesLive_60 : decode cX10_doesLive 60 = .ok (.iconst 1, 1) := by decide +kernel
theorem dX10_doesLive_61 : decode cX10_doesLive 61 = .ok (.goto 4, 3) := by decide +kernel
theorem dX10_doesLive_64 : decode cX10_doesLive 64 = .ok (.iconst 0, 1) := by decide +kernel
theorem dX10_doesLive_65 : decode cX10_doesLive 65 = .ok (.ireturn, 1) := by decide +kernel
theorem dX10_lives_0 : decode cX10_lives 0 = .ok (.aload_n 0, 1) := by decide +kernel
theorem dX10_lives_1 : decode cX10_lives 1 = .ok (.iload_n 1, 1) := by decide +kernel
theorem dX10_lives_2 : decode cX10_lives 2 = .ok (.invokevirtual 127, 3) := by decide +kernel
theorem dX10_lives_5 : decode cX10_lives 5 = .ok (.ifCond .ne 10, 3) := by decide +kernel
theorem dX10_lives_8 : decode cX10_lives 8 = .ok (.iload_n 2, 1) := by decide +kernel
theorem dX10_lives_9 : decode cX10_lives 9 = .ok (.invokestatic 130, 3) := by decide +kernel
theorem dX10_lives_12 : decode cX10_lives 12 = .ok (.ifCond .eq 5, 3) := by decide +kernel
theorem dX10_lives_15 : decode cX10_lives 15 = .ok (.iconst (-1), 1) := by decide +kernel
theorem dX10_lives_16 : decode cX10_lives 16 = .ok (.ireturn, 1) := by decide +kernel
theorem dX10_lives_17 : decode cX10_lives 17 = .ok (.iload_n 3, 1) := by decide +kernel
theorem dX10_lives_18 : decode cX10_lives 18 = .ok (.invokestatic 133, 3) := by decide +kernel
theorem dX10_lives_21 : decode cX10_lives 21 = .ok (.ifCond .eq 21, 3) := by decide +kernel
theorem dX10_lives_24 : decode cX10_lives 24 = .ok (.aload_n 0, 1) := by decide +kernel
theorem dX10_lives_25 : decode cX10_lives 25 = .ok (.iload_n 1, 1) := by decide +kernel
theorem dX10_lives_26 : decode cX10_lives 26 = .ok (.iload_n 2, 1) := by decide +kernel
theorem dX10_lives_27 : decode cX10_lives 27 = .ok (.iload_n 3, 1) := by decide +kernel
theorem dX10_lives_28 : decode cX10_lives 28 = .ok (.invokevirtual 136, 3) := by decide +kernel
theorem dX10_lives_31 : decode cX10_lives 31 = .ok (.ifCond .eq 7, 3) := by decide +kernel
theorem dX10_lives_34 : decode cX10_lives 34 = .ok (.iconst 1, 1) := by decide +kernel
theorem dX10_lives_35 : decode cX10_lives 35 = .ok (.goto 9, 3) := by decide +kernel
theorem dX10_lives_38 : decode cX10_lives 38 = .ok (.iconst 0, 1) := by decide +kernel
theorem dX10_lives_39 : decode cX10_lives 39 = .ok (.goto 5, 3) := by decide +kernel
theorem dX10_lives_42 : decode cX10_lives 42 = .ok (.bipush (-2), 2) := by decide +kernel
theorem dX10_lives_44 : decode cX10_lives 44 = .ok (.ireturn, 1) := by decide +kernel
theorem dX10_saidBy_0 : decode cX10_saidBy 0 = .ok (.iconst 0, 1) := by decide +kernel
theorem dX10_saidBy_1 : decode cX10_saidBy 1 = .ok (.istore 4, 2) := by decide +kernel
theorem dX10_saidBy_3 : decode cX10_saidBy 3 = .ok (.iload 4, 2) := by decide +kernel
theorem dX10_saidBy_5 : decode cX10_saidBy 5 = .ok (.aload_n 0, 1) := by decide +kernel
theorem dX10_saidBy_6 : decode cX10_saidBy 6 = .ok (.getfield 93, 3) := by decide +kernel
theorem dX10_saidBy_9 : decode cX10_saidBy 9 = .ok (.if_icmp .ge 34, 3) := by decide +kernel
theorem dX10_saidBy_12 : decode cX10_saidBy 12 = .ok (.aload_n 0, 1) := by decide +kernel
theorem dX10_saidBy_13 : decode cX10_saidBy 13 = .ok (.getfield 16, 3) := by decide +kernel
theorem dX10_saidBy_16 : decode cX10_saidBy 16 = .ok (.iload 4, 2) := by decide +kernel
theorem dX10_saidBy_18 : decode cX10_saidBy 18 = .ok (.iaload, 1) := by decide +kernel
theorem dX10_saidBy_19 : decode cX10_saidBy 19 = .ok (.iload_n 1, 1) := by decide +kernel
theorem dX10_saidBy_20 : decode cX10_saidBy 20 = .ok (.if_icmp .ne 17, 3) := by decide +kernel
theorem dX10_saidBy_23 : decode cX10_saidBy 23 = .ok (.aload_n 0, 1) := by decide +kernel
theorem dX10_saidBy_24 : decode cX10_saidBy 24 = .ok (.iload 4, 2) := by decide +kernel
theorem dX10_saidBy_26 : decode cX10_saidBy 26 = .ok (.iload_n 2, 1) := by decide +kernel
theorem dX10_saidBy_27 : decode cX10_saidBy 27 = .ok (.iload_n 3, 1) := by decide +kernel
theorem dX10_saidBy_28 : decode cX10_saidBy 28 = .ok (.invokevirtual 136, 3) := by decide +kernel
theorem dX10_saidBy_31 : decode cX10_saidBy 31 = .ok (.ifCond .eq 6, 3) := by decide +kernel
theorem dX10_saidBy_34 : decode cX10_saidBy 34 = .ok (.iload 4, 2) := by decide +kernel
theorem dX10_saidBy_36 : decode cX10_saidBy 36 = .ok (.ireturn, 1) := by decide +kernel
theorem dX10_saidBy_37 : decode cX10_saidBy 37 = .ok (.iinc 4 1, 3) := by decide +kernel
theorem dX10_saidBy_40 : decode cX10_saidBy 40 = .ok (.goto (-37), 3) := by decide +kernel
theorem dX10_saidBy_43 : decode cX10_saidBy 43 = .ok (.bipush (-9), 2) := by decide +kernel
theorem dX10_saidBy_45 : decode cX10_saidBy 45 = .ok (.ireturn, 1) := by decide +kernel
theorem dX10_word_0 : decode cX10_word 0 = .ok (.iload_n 2, 1) := by decide +kernel
theorem dX10_word_1 : decode cX10_word 1 = .ok (.invokestatic 130, 3) := by decide +kernel
theorem dX10_word_4 : decode cX10_word 4 = .ok (.ifCond .eq 5, 3) := by decide +kernel
theorem dX10_word_7 : decode cX10_word 7 = .ok (.iconst (-1), 1) := by decide +kernel
theorem dX10_word_8 : decode cX10_word 8 = .ok (.ireturn, 1) := by decide +kernel
theorem dX10_word_9 : decode cX10_word 9 = .ok (.iload_n 1, 1) := by decide +kernel
theorem dX10_word_10 : decode cX10_word 10 = .ok (.i2l, 1) := by decide +kernel
theorem dX10_word_11 : decode cX10_word 11 = .ok (.lconst 1, 1) := by decide +kernel
theorem dX10_word_12 : decode cX10_word 12 = .ok (.ldc2_w 140, 3) := by decide +kernel
theorem dX10_word_15 : decode cX10_word 15 = .ok (.invokestatic 82, 3) := by decide +kernel
theorem dX10_word_18 : decode cX10_word 18 = .ok (.ifCond .eq 20, 3) := by decide +kernel
theorem dX10_word_21 : decode cX10_word 21 = .ok (.iload_n 3, 1) := by decide +kernel
theorem dX10_word_22 : decode cX10_word 22 = .ok (.invokestatic 133, 3) := by decide +kernel
theorem dX10_word_25 : decode cX10_word 25 = .ok (.ifCond .eq 13, 3) := by decide +kernel
theorem dX10_word_28 : decode cX10_word 28 = .ok (.aload_n 0, 1) := by decide +kernel
theorem dX10_word_29 : decode cX10_word 29 = .ok (.iload_n 1, 1) := by decide +kernel
theorem dX10_word_30 : decode cX10_word 30 = .ok (.iload_n 2, 1) := by decide +kernel
theorem dX10_word_31 : decode cX10_word 31 = .ok (.iload_n 3, 1) := by decide +kernel
theorem dX10_word_32 : decode cX10_word 32 = .ok (.invokevirtual 142, 3) := by decide +kernel
theorem dX10_word_35 : decode cX10_word 35 = .ok (.goto 5, 3) := by decide +kernel
theorem dX10_word_38 : decode cX10_word 38 = .ok (.bipush (-2), 2) := by decide +kernel
theorem dX10_word_40 : decode cX10_word 40 = .ok (.ireturn, 1) := by decide +kernel
theorem dX10_sayable_0 : decode cX10_sayable 0 = .ok (.iload_n 1, 1) := by decide +kernel
theorem dX10_sayable_1 : decode cX10_sayable 1 = .ok (.invokestatic 130, 3) := by decide +kernel
theorem dX10_sayable_4 : decode cX10_sayable 4 = .ok (.ifCond .ne 8, 3) := by decide +kernel
theorem dX10_sayable_7 : decode cX10_sayable 7 = .ok (.iload_n 3, 1) := by decide +kernel
theorem dX10_sayable_8 : decode cX10_sayable 8 = .ok (.iconst (-1), 1) := by decide +kernel
theorem dX10_sayable_9 : decode cX10_sayable 9 = .ok (.if_icmp .ge 5, 3) := by decide +kernel
theorem dX10_sayable_12 : decode cX10_sayable 12 = .ok (.iconst (-1), 1) := by decide +kernel
theorem dX10_sayable_13 : decode cX10_sayable 13 = .ok (.ireturn, 1) := by decide +kernel
theorem dX10_sayable_14 : decode cX10_sayable 14 = .ok (.iload_n 2, 1) := by decide +kernel
theorem dX10_sayable_15 : decode cX10_sayable 15 = .ok (.invokestatic 133, 3) := by decide +kernel
theorem dX10_sayable_18 : decode cX10_sayable 18 = .ok (.ifCond .ne 6, 3) := by decide +kernel
theorem dX10_sayable_21 : decode cX10_sayable 21 = .ok (.bipush (-2), 2) := by decide +kernel
theorem dX10_sayable_23 : decode cX10_sayable 23 = .ok (.ireturn, 1) := by decide +kernel
theorem dX10_sayable_24 : decode cX10_sayable 24 = .ok (.iconst 0, 1) := by decide +kernel
theorem dX10_sayable_25 : decode cX10_sayable 25 = .ok (.istore 4, 2) := by decide +kernel
theorem dX10_sayable_27 : decode cX10_sayable 27 = .ok (.iconst 1, 1) := by decide +kernel
theorem dX10_sayable_28 : decode cX10_sayable 28 = .ok (.istore 5, 2) := by decide +kernel
theorem dX10_sayable_30 : decode cX10_sayable 30 = .ok (.iload 5, 2) := by decide +kernel
theorem dX10_sayable_32 : decode cX10_sayable 32 = .ok (.bipush 100, 2) := by decide +kernel
theorem dX10_sayable_34 : decode cX10_sayable 34 = .ok (.if_icmp .ge 32, 3) := by decide +kernel
theorem dX10_sayable_37 : decode cX10_sayable 37 = .ok (.aload_n 0, 1) := by decide +kernel
theorem dX10_sayable_38 : decode cX10_sayable 38 = .ok (.iload 5, 2) := by decide +kernel
theorem dX10_sayable_40 : decode cX10_sayable 40 = .ok (.iload_n 1, 1) := by decide +kernel
theorem dX10_sayable_41 : decode cX10_sayable 41 = .ok (.iload_n 2, 1) := by decide +kernel
theorem dX10_sayable_42 : decode cX10_sayable 42 = .ok (.invokevirtual 142, 3) := by decide +kernel
theorem dX10_sayable_45 : decode cX10_sayable 45 = .ok (.ifCond .lt 15, 3) := by decide +kernel
theorem dX10_sayable_48 : decode cX10_sayable 48 = .ok (.iload 4, 2) := by decide +kernel
theorem dX10_sayable_50 : decode cX10_sayable 50 = .ok (.iload_n 3, 1) := by decide +kernel
theorem dX10_sayable_51 : decode cX10_sayable 51 = .ok (.if_icmp .ne 6, 3) := by decide +kernel
theorem dX10_sayable_54 : decode cX10_sayable 54 = .ok (.iload 5, 2) := by decide +kernel
theorem dX10_sayable_56 : decode cX10_sayable 56 = .ok (.ireturn, 1) := by decide +kernel
theorem dX10_sayable_57 : decode cX10_sayable 57 = .ok (.iinc 4 1, 3) := by decide +kernel
theorem dX10_sayable_60 : decode cX10_sayable 60 = .ok (.iinc 5 1, 3) := by decide +kernel
theorem dX10_sayable_63 : decode cX10_sayable 63 = .ok (.goto (-33), 3) := by decide +kernel
theorem dX10_sayable_66 : decode cX10_sayable 66 = .ok (.iload_n 3, 1) := by decide +kernel
theorem dX10_sayable_67 : decode cX10_sayable 67 = .ok (.ifCond .ge 8, 3) := by decide +kernel
theorem dX10_sayable_70 : decode cX10_sayable 70 = .ok (.iload 4, 2) := by decide +kernel
theorem dX10_sayable_72 : decode cX10_sayable 72 = .ok (.goto 5, 3) := by decide +kernel
theorem dX10_sayable_75 : decode cX10_sayable 75 = .ok (.bipush (-9), 2) := by decide +kernel
theorem dX10_sayable_77 : decode cX10_sayable 77 = .ok (.ireturn, 1) := by decide +kernel
theorem dX10_layCan_0 : decode cX10_layCan 0 = .ok (.iconst 0, 1) := by decide +kernel
theorem dX10_layCan_1 : decode cX10_layCan 1 = .ok (.istore 4, 2) := by decide +kernel
theorem dX10_layCan_3 : decode cX10_layCan 3 = .ok (.iload 4, 2) := by decide +kernel
theorem dX10_layCan_5 : decode cX10_layCan 5 = .ok (.bipush 100, 2) := by decide +kernel
theorem dX10_layCan_7 : decode cX10_layCan 7 = .ok (.if_icmp .ge 17, 3) := by decide +kernel
theorem dX10_layCan_10 : decode cX10_layCan 10 = .ok (.aload_n 0, 1) := by decide +kernel
theorem dX10_layCan_11 : decode cX10_layCan 11 = .ok (.getfield 40, 3) := by decide +kernel
theorem dX10_layCan_14 : decode cX10_layCan 14 = .ok (.iload 4, 2) := by decide +kernel
theorem dX10_layCan_16 : decode cX10_layCan 16 = .ok (.iconst 0, 1) := by decide +kernel
theorem dX10_layCan_17 : decode cX10_layCan 17 = .ok (.bastore, 1) := by decide +kernel
theorem dX10_layCan_18 : decode cX10_layCan 18 = .ok (.iinc 4 1, 3) := by decide +kernel
theorem dX10_layCan_21 : decode cX10_layCan 21 = .ok (.goto (-18), 3) := by decide +kernel
theorem dX10_layCan_24 : decode cX10_layCan 24 = .ok (.iconst 0, 1) := by decide +kernel
theorem dX10_layCan_25 : decode cX10_layCan 25 = .ok (.istore 4, 2) := by decide +kernel
theorem dX10_layCan_27 : decode cX10_layCan 27 = .ok (.iload 4, 2) := by decide +kernel
theorem dX10_layCan_29 : decode cX10_layCan 29 = .ok (.aload_n 0, 1) := by decide +kernel
theorem dX10_layCan_30 : decode cX10_layCan 30 = .ok (.getfield 93, 3) := by decide +kernel
theorem dX10_layCan_33 : decode cX10_layCan 33 = .ok (.if_icmp .ge 39, 3) := by decide +kernel
theorem dX10_layCan_36 : decode cX10_layCan 36 = .ok (.iload 4, 2) := by decide +kernel
theorem dX10_layCan_38 : decode cX10_layCan 38 = .ok (.iload_n 3, 1) := by decide +kernel
theorem dX10_layCan_39 : decode cX10_layCan 39 = .ok (.if_icmp .eq 27, 3) := by decide +kernel
theorem dX10_layCan_42 : decode cX10_layCan 42 = .ok (.aload_n 0, 1) := by decide +kernel
theorem dX10_layCan_43 : decode cX10_layCan 43 = .ok (.iload 4, 2) := by decide +kernel
theorem dX10_layCan_45 : decode cX10_layCan 45 = .ok (.iload_n 1, 1) := by decide +kernel
theorem dX10_layCan_46 : decode cX10_layCan 46 = .ok (.iload_n 2, 1) := by decide +kernel
theorem dX10_layCan_47 : decode cX10_layCan 47 = .ok (.invokevirtual 136, 3) := by decide +kernel
theorem dX10_layCan_50 : decode cX10_layCan 50 = .ok (.ifCond .eq 16, 3) := by decide +kernel
theorem dX10_layCan_53 : decode cX10_layCan 53 = .ok (.aload_n 0, 1) := by decide +kernel
theorem dX10_layCan_54 : decode cX10_layCan 54 = .ok (.getfield 40, 3) := by decide +kernel
theorem dX10_layCan_57 : decode cX10_layCan 57 = .ok (.aload_n 0, 1) := by decide +kernel
theorem dX10_layCan_58 : decode cX10_layCan 58 = .ok (.getfield 16, 3) := by decide +kernel
theorem dX10_layCan_61 : decode cX10_layCan 61 = .ok (.iload 4, 2) := by decide +kernel
theorem dX10_layCan_63 : decode cX10_layCan 63 = .ok (.iaload, 1) := by decide +kernel
theorem dX10_layCan_64 : decode cX10_layCan 64 = .ok (.iconst 1, 1) := by decide +kernel
theorem dX10_layCan_65 : decode cX10_layCan 65 = .ok (.bastore, 1) := by decide +kernel
theorem dX10_layCan_66 : decode cX10_layCan 66 = .ok (.iinc 4 1, 3) := by decide +kernel
theorem dX10_layCan_69 : decode cX10_layCan 69 = .ok (.goto (-42), 3) := by decide +kernel
theorem dX10_layCan_72 : decode cX10_layCan 72 = .ok (.return_, 1) := by decide +kernel
theorem dX10_layFewest_0 : decode cX10_layFewest 0 = .ok (.aload_n 0, 1) := by decide +kernel
theorem dX10_layFewest_1 : decode cX10_layFewest 1 = .ok (.getfield 44, 3) := by decide +kernel
theorem dX10_layFewest_4 : decode cX10_layFewest 4 = .ok (.iconst 0, 1) := by decide +kernel
theorem dX10_layFewest_5 : decode cX10_layFewest 5 = .ok (.iconst 0, 1) := by decide +kernel
theorem dX10_layFewest_6 : decode cX10_layFewest 6 = .ok (.iastore, 1) := by decide +kernel
theorem dX10_layFewest_7 : decode cX10_layFewest 7 = .ok (.iconst 1, 1) := by decide +kernel
theorem dX10_layFewest_8 : decode cX10_layFewest 8 = .ok (.istore_n 2, 1) := by decide +kernel
theorem dX10_layFewest_9 : decode cX10_layFewest 9 = .ok (.iload_n 2, 1) := by decide +kernel
theorem dX10_layFewest_10 : decode cX10_layFewest 10 = .ok (.iload_n 1, 1) := by decide +kernel
theorem dX10_layFewest_11 : decode cX10_layFewest 11 = .ok (.if_icmp .gt 70, 3) := by decide +kernel
theorem dX10_layFewest_14 : decode cX10_layFewest 14 = .ok (.aload_n 0, 1) := by decide +kernel
theorem dX10_layFewest_15 : decode cX10_layFewest 15 = .ok (.getfield 44, 3) := by decide +kernel
theorem dX10_layFewest_18 : decode cX10_layFewest 18 = .ok (.iload_n 2, 1) := by decide +kernel
theorem dX10_layFewest_19 : decode cX10_layFewest 19 = .ok (.sipush 5000, 3) := by decide +kernel
theorem dX10_layFewest_22 : decode cX10_layFewest 22 = .ok (.iastore, 1) := by decide +kernel
theorem dX10_layFewest_23 : decode cX10_layFewest 23 = .ok (.iconst 1, 1) := by decide +kernel
theorem dX10_layFewest_24 : decode cX10_layFewest 24 = .ok (.istore_n 3, 1) := by decide +kernel
theorem dX10_layFewest_25 : decode cX10_layFewest 25 = .ok (.iload_n 3, 1) := by decide +kernel
theorem dX10_layFewest_26 : decode cX10_layFewest 26 = .ok (.iload_n 2, 1) := by decide +kernel
theorem dX10_layFewest_27 : decode cX10_layFewest 27 = .ok (.bipush 99, 2) := by decide +kernel
theorem dX10_layFewest_29 : decode cX10_layFewest 29 = .ok (.invokestatic 145, 3) := by decide +kernel
theorem dX10_layFewest_32 : decode cX10_layFewest 32 = .ok (.if_icmp .gt 43, 3) := by decide +kernel
theorem dX10_layFewest_35 : decode cX10_layFewest 35 = .ok (.aload_n 0, 1) := by decide +kernel
theorem dX10_layFewest_36 : decode cX10_layFewest 36 = .ok (.getfield 40, 3) := by decide +kernel
theorem dX10_layFewest_39 : decode cX10_layFewest 39 = .ok (.iload_n 3, 1) := by decide +kernel
theorem dX10_layFewest_40 : decode cX10_layFewest 40 = .ok (.baload, 1) := by decide +kernel
theorem dX10_layFewest_41 : decode cX10_layFewest 41 = .ok (.ifCond .eq 28, 3) := by decide +kernel
theorem dX10_layFewest_44 : decode cX10_layFewest 44 = .ok (.aload_n 0, 1) := by decide +kernel
theorem dX10_layFewest_45 : decode cX10_layFewest 45 = .ok (.getfield 44, 3) := by decide +kernel
theorem dX10_layFewest_48 : decode cX10_layFewest 48 = .ok (.iload_n 2, 1) := by decide +kernel
theorem dX10_layFewest_49 : decode cX10_layFewest 49 = .ok (.aload_n 0, 1) := by decide +kernel
theorem dX10_layFewest_50 : decode cX10_layFewest 50 = .ok (.getfield 44, 3) := by decide +kernel
theorem dX10_layFewest_53 : decode cX10_layFewest 53 = .ok (.iload_n 2, 1) := by decide +kernel
theorem dX10_layFewest_54 : decode cX10_layFewest 54 = .ok (.iaload, 1) := by decide +kernel
theorem dX10_layFewest_55 : decode cX10_layFewest 55 = .ok (.aload_n 0, 1) := by decide +kernel
theorem dX10_layFewest_56 : decode cX10_layFewest 56 = .ok (.getfield 44, 3) := by decide +kernel
theorem dX10_layFewest_59 : decode cX10_layFewest 59 = .ok (.iload_n 2, 1) := by decide +kernel
theorem dX10_layFewest_60 : decode cX10_layFewest 60 = .ok (.iload_n 3, 1) := by decide +kernel
theorem dX10_layFewest_61 : decode cX10_layFewest 61 = .ok (.isub, 1) := by decide +kernel
theorem dX10_layFewest_62 : decode cX10_layFewest 62 = .ok (.iaload, 1) := by decide +kernel
theorem dX10_layFewest_63 : decode cX10_layFewest 63 = .ok (.iconst 1, 1) := by decide +kernel
theorem dX10_layFewest_64 : decode cX10_layFewest 64 = .ok (.iadd, 1) := by decide +kernel
theorem dX10_layFewest_65 : decode cX10_layFewest 65 = .ok (.invokestatic 145, 3) := by decide +kernel
theorem dX10_layFewest_68 : decode cX10_layFewest 68 = .ok (.iastore, 1) := by decide +kernel
theorem dX10_layFewest_69 : decode cX10_layFewest 69 = .ok (.iinc 3 1, 3) := by decide +kernel
theorem dX10_layFewest_72 : decode cX10_layFewest 72 = .ok (.goto (-47), 3) := by decide +kernel
theorem dX10_layFewest_75 : decode cX10_layFewest 75 = .ok (.iinc 2 1, 3) := by decide +kernel
theorem dX10_layFewest_78 : decode cX10_layFewest 78 = .ok (.goto (-69), 3) := by decide +kernel
theorem dX10_layFewest_81 : decode cX10_layFewest 81 = .ok (.return_, 1) := by decide +kernel
theorem dX10_laySaid_0 : decode cX10_laySaid 0 = .ok (.aload_n 0, 1) := by decide +kernel
theorem dX10_laySaid_1 : decode cX10_laySaid 1 = .ok (.iload_n 1, 1) := by decide +kernel
theorem dX10_laySaid_2 : decode cX10_laySaid 2 = .ok (.iload_n 2, 1) := by decide +kernel
theorem dX10_laySaid_3 : decode cX10_laySaid 3 = .ok (.bipush (-9), 2) := by decide +kernel
theorem dX10_laySaid_5 : decode cX10_laySaid 5 = .ok (.invokevirtual 149, 3) := by decide +kernel
theorem dX10_laySaid_8 : decode cX10_laySaid 8 = .ok (.aload_n 0, 1) := by decide +kernel
theorem dX10_laySaid_9 : decode cX10_laySaid 9 = .ok (.iload_n 3, 1) := by decide +kernel
theorem dX10_laySaid_10 : decode cX10_laySaid 10 = .ok (.invokevirtual 153, 3) := by decide +kernel
theorem dX10_laySaid_13 : decode cX10_laySaid 13 = .ok (.return_, 1) := by decide +kernel
theorem dX10_arePeople_0 : decode cX10_arePeople 0 = .ok (.iconst 1, 1) := by decide +kernel
theorem dX10_arePeople_1 : decode cX10_arePeople 1 = .ok (.istore_n 3, 1) := by decide +kernel
theorem dX10_arePeople_2 : decode cX10_arePeople 2 = .ok (.iconst 0, 1) := by decide +kernel
theorem dX10_arePeople_3 : decode cX10_arePeople 3 = .ok (.istore 4, 2) := by decide +kernel
theorem dX10_arePeople_5 : decode cX10_arePeople 5 = .ok (.iload 4, 2) := by decide +kernel
theorem dX10_arePeople_7 : decode cX10_arePeople 7 = .ok (.iload_n 2, 1) := by decide +kernel
theorem dX10_arePeople_8 : decode cX10_arePeople 8 = .ok (.if_icmp .ge 35, 3) := by decide +kernel
theorem dX10_arePeople_11 : decode cX10_arePeople 11 = .ok (.iload_n 3, 1) := by decide +kernel
theorem dX10_arePeople_12 : decode cX10_arePeople 12 = .ok (.ifCond .eq 23, 3) := by decide +kernel
theorem dX10_arePeople_15 : decode cX10_arePeople 15 = .ok (.aload_n 0, 1) := by decide +kernel
theorem dX10_arePeople_16 : decode cX10_arePeople 16 = .ok (.aload_n 0, 1) := by decide +kernel
theorem dX10_arePeople_17 : decode cX10_arePeople 17 = .ok (.getfield 56, 3) := by decide +kernel
theorem dX10_arePeople_20 : decode cX10_arePeople 20 = .ok (.iload_n 1, 1) := by decide +kernel
theorem dX10_arePeople_21 : decode cX10_arePeople 21 = .ok (.iload 4, 2) := by decide +kernel
theorem dX10_arePeople_23 : decode cX10_arePeople 23 = .ok (.iadd, 1) := by decide +kernel
theorem dX10_arePeople_24 : decode cX10_arePeople 24 = .ok (.iaload, 1) := by decide +kernel
theorem dX10_arePeople_25 : decode cX10_arePeople 25 = .ok (.invokevirtual 127, 3) := by decide +kernel
theorem dX10_arePeople_28 : decode cX10_arePeople 28 = .ok (.ifCond .ne 7, 3) := by decide +kernel
theorem dX10_arePeople_31 : decode cX10_arePeople 31 = .ok (.iconst 1, 1) := by decide +kernel
theorem dX10_arePeople_32 : decode cX10_arePeople 32 = .ok (.goto 4, 3) := by decide +kernel
theorem dX10_arePeople_35 : decode cX10_arePeople 35 = .ok (.iconst 0, 1) := by decide +kernel
theorem dX10_arePeople_36 : decode cX10_arePeople 36 = .ok (.istore_n 3, 1) := by decide +kernel
theorem dX10_arePeople_37 : decode cX10_arePeople 37 = .ok (.iinc 4 1, 3) := by decide +kernel
theorem dX10_arePeople_40 : decode cX10_arePeople 40 = .ok (.goto (-35), 3) := by decide +kernel
theorem dX10_arePeople_43 : decode cX10_arePeople 43 = .ok (.iload_n 3, 1) := by decide +kernel
theorem dX10_arePeople_44 : decode cX10_arePeople 44 = .ok (.ireturn, 1) := by decide +kernel
theorem dX10_meant_0 : decode cX10_meant 0 = .ok (.iconst 0, 1) := by decide +kernel
theorem dX10_meant_1 : decode cX10_meant 1 = .ok (.istore 5, 2) := by decide +kernel
theorem dX10_meant_3 : decode cX10_meant 3 = .ok (.iconst 0, 1) := by decide +kernel
theorem dX10_meant_4 : decode cX10_meant 4 = .ok (.istore 6, 2) := by decide +kernel
theorem dX10_meant_6 : decode cX10_meant 6 = .ok (.iload 6, 2) := by decide +kernel
theorem dX10_meant_8 : decode cX10_meant 8 = .ok (.iload 4, 2) := by decide +kernel
theorem dX10_meant_10 : decode cX10_meant 10 = .ok (.if_icmp .ge 52, 3) := by decide +kernel
theorem dX10_meant_13 : decode cX10_meant 13 = .ok (.aload_n 0, 1) := by decide +kernel
theorem dX10_meant_14 : decode cX10_meant 14 = .ok (.aload_n 0, 1) := by decide +kernel
theorem dX10_meant_15 : decode cX10_meant 15 = .ok (.getfield 56, 3) := by decide +kernel
theorem dX10_meant_18 : decode cX10_meant 18 = .ok (.iload_n 3, 1) := by decide +kernel
theorem dX10_meant_19 : decode cX10_meant 19 = .ok (.iload 6, 2) := by decide +kernel
theorem dX10_meant_21 : decode cX10_meant 21 = .ok (.iadd, 1) := by decide +kernel
theorem dX10_meant_22 : decode cX10_meant 22 = .ok (.iaload, 1) := by decide +kernel
theorem dX10_meant_23 : decode cX10_meant 23 = .ok (.iload_n 1, 1) := by decide +kernel
theorem dX10_meant_24 : decode cX10_meant 24 = .ok (.iload_n 2, 1) := by decide +kernel
theorem dX10_meant_25 : decode cX10_meant 25 = .ok (.invokevirtual 136, 3) := by decide +kernel
theorem dX10_meant_28 : decode cX10_meant 28 = .ok (.ifCond .ne 9, 3) := by decide +kernel
theorem dX10_meant_31 : decode cX10_meant 31 = .ok (.bipush (-100), 2) := by decide +kernel
theorem dX10_meant_33 : decode cX10_meant 33 = .ok (.iload 6, 2) := by decide +kernel
theorem dX10_meant_35 : decode cX10_meant 35 = .ok (.isub, 1) := by decide +kernel
theorem dX10_meant_36 : decode cX10_meant 36 = .ok (.ireturn, 1) := by decide +kernel
theorem dX10_meant_37 : decode cX10_meant 37 = .ok (.iload 5, 2) := by decide +kernel
theorem dX10_meant_39 : decode cX10_meant 39 = .ok (.aload_n 0, 1) := by decide +kernel
theorem dX10_meant_40 : decode cX10_meant 40 = .ok (.getfield 16, 3) := by decide +kernel
theorem dX10_meant_43 : decode cX10_meant 43 = .ok (.aload_n 0, 1) := by decide +kernel
theorem dX10_meant_44 : decode cX10_meant 44 = .ok (.getfield 56, 3) := by decide +kernel
theorem dX10_meant_47 : decode cX10_meant 47 = .ok (.iload_n 3, 1) := by decide +kernel
theorem dX10_meant_48 : decode cX10_meant 48 = .ok (.iload 6, 2) := by decide +kernel
theorem dX10_meant_50 : decode cX10_meant 50 = .ok (.iadd, 1) := by decide +kernel
theorem dX10_meant_51 : decode cX10_meant 51 = .ok (.iaload, 1) := by decide +kernel
theorem dX10_meant_52 : decode cX10_meant 52 = .ok (.iaload, 1) := by decide +kernel
theorem dX10_meant_53 : decode cX10_meant 53 = .ok (.iadd, 1) := by decide +kernel
theorem dX10_meant_54 : decode cX10_meant 54 = .ok (.istore 5, 2) := by decide +kernel
theorem dX10_meant_56 : decode cX10_meant 56 = .ok (.iinc 6 1, 3) := by decide +kernel
theorem dX10_meant_59 : decode cX10_meant 59 = .ok (.goto (-53), 3) := by decide +kernel
theorem dX10_meant_62 : decode cX10_meant 62 = .ok (.iload 5, 2) := by decide +kernel
theorem dX10_meant_64 : decode cX10_meant 64 = .ok (.ireturn, 1) := by decide +kernel
theorem dX10_rowBarred_0 : decode cX10_rowBarred 0 = .ok (.iload_n 1, 1) := by decide +kernel
theorem dX10_rowBarred_1 : decode cX10_rowBarred 1 = .ok (.invokestatic 130, 3) := by decide +kernel
theorem dX10_rowBarred_4 : decode cX10_rowBarred 4 = .ok (.ifCond .eq 9, 3) := by decide +kernel
theorem dX10_rowBarred_7 : decode cX10_rowBarred 7 = .ok (.aload_n 0, 1) := by decide +kernel
theorem dX10_rowBarred_8 : decode cX10_rowBarred 8 = .ok (.iconst (-1), 1) := by decide +kernel
theorem dX10_rowBarred_9 : decode cX10_rowBarred 9 = .ok (.invokevirtual 76, 3) := by decide +kernel
theorem dX10_rowBarred_12 : decode cX10_rowBarred 12 = .ok (.ireturn, 1) := by decide +kernel
theorem dX10_rowBarred_13 : decode cX10_rowBarred 13 = .ok (.aload_n 0, 1) := by decide +kernel
theorem dX10_rowBarred_14 : decode cX10_rowBarred 14 = .ok (.iload_n 2, 1) := by decide +kernel
theorem dX10_rowBarred_15 : decode cX10_rowBarred 15 = .ok (.iload_n 3, 1) := by decide +kernel
theorem dX10_rowBarred_16 : decode cX10_rowBarred 16 = .ok (.iload 4, 2) := by decide +kernel
theorem dX10_rowBarred_18 : decode cX10_rowBarred 18 = .ok (.iload 5, 2) := by decide +kernel
theorem dX10_rowBarred_20 : decode cX10_rowBarred 20 = .ok (.i2l, 1) := by decide +kernel
theorem dX10_rowBarred_21 : decode cX10_rowBarred 21 = .ok (.iload 6, 2) := by decide +kernel
theorem dX10_rowBarred_23 : decode cX10_rowBarred 23 = .ok (.invokevirtual 120, 3) := by decide +kernel
theorem dX10_rowBarred_26 : decode cX10_rowBarred 26 = .ok (.istore 7, 2) := by decide +kernel
theorem dX10_rowBarred_28 : decode cX10_rowBarred 28 = .ok (.iload 7, 2) := by decide +kernel
theorem dX10_rowBarred_30 : decode cX10_rowBarred 30 = .ok (.ifCond .ge 6, 3) := by decide +kernel
theorem dX10_rowBarred_33 : decode cX10_rowBarred 33 = .ok (.iload 7, 2) := by decide +kernel
theorem dX10_rowBarred_35 : decode cX10_rowBarred 35 = .ok (.ireturn, 1) := by decide +kernel
theorem dX10_rowBarred_36 : decode cX10_rowBarred 36 = .ok (.iload 5, 2) := by decide +kernel
theorem dX10_rowBarred_38 : decode cX10_rowBarred 38 = .ok (.bipush 20, 2) := by decide +kernel
theorem dX10_rowBarred_40 : decode cX10_rowBarred 40 = .ok (.if_icmp .le 10, 3) := by decide +kernel
theorem dX10_rowBarred_43 : decode cX10_rowBarred 43 = .ok (.aload_n 0, 1) := by decide +kernel
theorem dX10_rowBarred_44 : decode cX10_rowBarred 44 = .ok (.bipush (-2), 2) := by decide +kernel
theorem dX10_rowBarred_46 : decode cX10_rowBarred 46 = .ok (.invokevirtual 76, 3) := by decide +kernel
theorem dX10_rowBarred_49 : decode cX10_rowBarred 49 = .ok (.ireturn, 1) := by decide +kernel
theorem dX10_rowBarred_50 : decode cX10_rowBarred 50 = .ok (.aload_n 0, 1) := by decide +kernel
theorem dX10_rowBarred_51 : decode cX10_rowBarred 51 = .ok (.bipush 100, 2) := by decide +kernel
theorem dX10_rowBarred_53 : decode cX10_rowBarred 53 = .ok (.iload_n 2, 1) := by decide +kernel
theorem dX10_rowBarred_54 : decode cX10_rowBarred 54 = .ok (.imul, 1) := by decide +kernel
theorem dX10_rowBarred_55 : decode cX10_rowBarred 55 = .ok (.iload 4, 2) := by decide +kernel
theorem dX10_rowBarred_57 : decode cX10_rowBarred 57 = .ok (.iadd, 1) := by decide +kernel
theorem dX10_rowBarred_58 : decode cX10_rowBarred 58 = .ok (.iload 5, 2) := by decide +kernel
theorem dX10_rowBarred_60 : decode cX10_rowBarred 60 = .ok (.invokevirtual 157, 3) := by decide +kernel
theorem dX10_rowBarred_63 : decode cX10_rowBarred 63 = .ok (.ifCond .eq 7, 3) := by decide +kernel
theorem dX10_rowBarred_66 : decode cX10_rowBarred 66 = .ok (.iconst 0, 1) := by decide +kernel
theorem dX10_rowBarred_67 : decode cX10_rowBarred 67 = .ok (.goto 8, 3) := by decide +kernel
theorem dX10_rowBarred_70 : decode cX10_rowBarred 70 = .ok (.aload_n 0, 1) := by decide +kernel
theorem dX10_rowBarred_71 : decode cX10_rowBarred 71 = .ok (.iconst (-1), 1) := by decide +kernel
theorem dX10_rowBarred_72 : decode cX10_rowBarred 72 = .ok (.invokevirtual 76, 3) := by decide +kernel
theorem dX10_rowBarred_75 : decode cX10_rowBarred 75 = .ok (.ireturn, 1) := by decide +kernel
theorem dX10_means_0 : decode cX10_means 0 = .ok (.aload_n 0, 1) := by decide +kernel
theorem dX10_means_1 : decode cX10_means 1 = .ok (.iload_n 1, 1) := by decide +kernel
theorem dX10_means_2 : decode cX10_means 2 = .ok (.iload_n 3, 1) := by decide +kernel
theorem dX10_means_3 : decode cX10_means 3 = .ok (.iload 4, 2) := by decide +kernel
theorem dX10_means_5 : decode cX10_means 5 = .ok (.iload 5, 2) := by decide +kernel
theorem dX10_means_7 : decode cX10_means 7 = .ok (.iload 6, 2) := by decide +kernel
theorem dX10_means_9 : decode cX10_means 9 = .ok (.iload_n 2, 1) := by decide +kernel
theorem dX10_means_10 : decode cX10_means 10 = .ok (.invokestatic 133, 3) := by decide +kernel
theorem dX10_means_13 : decode cX10_means 13 = .ok (.invokevirtual 160, 3) := by decide +kernel
theorem dX10_means_16 : decode cX10_means 16 = .ok (.istore 7, 2) := by decide +kernel
theorem dX10_means_18 : decode cX10_means 18 = .ok (.iload 7, 2) := by decide +kernel
theorem dX10_means_20 : decode cX10_means 20 = .ok (.ifCond .ge 8, 3) := by decide +kernel
theorem dX10_means_23 : decode cX10_means 23 = .ok (.iload 7, 2) := by decide +kernel
theorem dX10_means_25 : decode cX10_means 25 = .ok (.goto 22, 3) := by decide +kernel
theorem dX10_means_28 : decode cX10_means 28 = .ok (.aload_n 0, 1) := by decide +kernel
theorem dX10_means_29 : decode cX10_means 29 = .ok (.aload_n 0, 1) := by decide +kernel
theorem dX10_means_30 : decode cX10_means 30 = .ok (.iload_n 1, 1) := by decide +kernel
theorem dX10_means_31 : decode cX10_means 31 = .ok (.iload_n 2, 1) := by decide +kernel
theorem dX10_means_32 : decode cX10_means 32 = .ok (.bipush 100, 2) := by decide +kernel
theorem dX10_means_34 : decode cX10_means 34 = .ok (.iload_n 3, 1) := by decide +kernel
theorem dX10_means_35 : decode cX10_means 35 = .ok (.imul, 1) := by decide +kernel
theorem dX10_means_36 : decode cX10_means 36 = .ok (.iload 5, 2) := by decide +kernel
theorem dX10_means_38 : decode cX10_means 38 = .ok (.iadd, 1) := by decide +kernel
theorem dX10_means_39 : decode cX10_means 39 = .ok (.iload 6, 2) := by decide +kernel
theorem dX10_means_41 : decode cX10_means 41 = .ok (.invokevirtual 164, 3) := by decide +kernel
theorem dX10_means_44 : decode cX10_means 44 = .ok (.invokevirtual 76, 3) := by decide +kernel
theorem dX10_means_47 : decode cX10_means 47 = .ok (.ireturn, 1) := by decide +kernel
theorem dX10_say_0 : decode cX10_say 0 = .ok (.iload_n 2, 1) := by decide +kernel
theorem dX10_say_1 : decode cX10_say 1 = .ok (.invokestatic 130, 3) := by decide +kernel
theorem dX10_say_4 : decode cX10_say 4 = .ok (.ifCond .ne 9, 3) := by decide +kernel
theorem dX10_say_7 : decode cX10_say 7 = .ok (.iload 4, 2) := by decide +kernel
theorem dX10_say_9 : decode cX10_say 9 = .ok (.iconst (-1), 1) := by decide +kernel
theorem dX10_say_10 : decode cX10_say 10 = .ok (.if_icmp .ge 5, 3) := by decide +kernel
theorem dX10_say_13 : decode cX10_say 13 = .ok (.iconst (-1), 1) := by decide +kernel
theorem dX10_say_14 : decode cX10_say 14 = .ok (.ireturn, 1) := by decide +kernel
theorem dX10_say_15 : decode cX10_say 15 = .ok (.iload_n 1, 1) := by decide +kernel
theorem dX10_say_16 : decode cX10_say 16 = .ok (.i2l, 1) := by decide +kernel
theorem dX10_say_17 : decode cX10_say 17 = .ok (.lconst 0, 1) := by decide +kernel
theorem dX10_say_18 : decode cX10_say 18 = .ok (.ldc2_w 167, 3) := by decide +kernel
theorem dX10_say_21 : decode cX10_say 21 = .ok (.invokestatic 82, 3) := by decide +kernel
theorem dX10_say_24 : decode cX10_say 24 = .ok (.ifCond .eq 10, 3) := by decide +kernel
theorem dX10_say_27 : decode cX10_say 27 = .ok (.iload_n 3, 1) := by decide +kernel
theorem dX10_say_28 : decode cX10_say 28 = .ok (.invokestatic 133, 3) := by decide +kernel
theorem dX10_say_31 : decode cX10_say 31 = .ok (.ifCond .ne 6, 3) := by decide +kernel
theorem dX10_say_34 : decode cX10_say 34 = .ok (.bipush (-2), 2) := by decide +kernel
theorem dX10_say_36 : decode cX10_say 36 = .ok (.ireturn, 1) := by decide +kernel
theorem dX10_say_37 : decode cX10_say 37 = .ok (.aload_n 0, 1) := by decide +kernel
theorem dX10_say_38 : decode cX10_say 38 = .ok (.iload_n 2, 1) := by decide +kernel
theorem dX10_say_39 : decode cX10_say 39 = .ok (.iload_n 3, 1) := by decide +kernel
theorem dX10_say_40 : decode cX10_say 40 = .ok (.iload_n 1, 1) := by decide +kernel
theorem dX10_say_41 : decode cX10_say 41 = .ok (.invokevirtual 169, 3) := by decide +kernel
theorem dX10_say_44 : decode cX10_say 44 = .ok (.aload_n 0, 1) := by decide +kernel
theorem dX10_say_45 : decode cX10_say 45 = .ok (.getfield 44, 3) := by decide +kernel
theorem dX10_say_48 : decode cX10_say 48 = .ok (.iload_n 1, 1) := by decide +kernel
theorem dX10_say_49 : decode cX10_say 49 = .ok (.iaload, 1) := by decide +kernel
theorem dX10_say_50 : decode cX10_say 50 = .ok (.istore 5, 2) := by decide +kernel
theorem dX10_say_52 : decode cX10_say 52 = .ok (.iload 5, 2) := by decide +kernel
theorem dX10_say_54 : decode cX10_say 54 = .ok (.sipush 5000, 3) := by decide +kernel
theorem dX10_say_57 : decode cX10_say 57 = .ok (.if_icmp .ge 10, 3) := by decide +kernel
theorem dX10_say_60 : decode cX10_say 60 = .ok (.iload 4, 2) := by decide +kernel
theorem dX10_say_62 : decode cX10_say 62 = .ok (.iload 5, 2) := by decide +kernel
theorem dX10_say_64 : decode cX10_say 64 = .ok (.if_icmp .lt 6, 3) := by decide +kernel
theorem dX10_say_67 : decode cX10_say 67 = .ok (.bipush (-9), 2) := by decide +kernel
theorem dX10_say_69 : decode cX10_say 69 = .ok (.ireturn, 1) := by decide +kernel
theorem dX10_say_70 : decode cX10_say 70 = .ok (.iload 4, 2) := by decide +kernel
theorem dX10_say_72 : decode cX10_say 72 = .ok (.ifCond .ge 6, 3) := by decide +kernel
theorem dX10_say_75 : decode cX10_say 75 = .ok (.iload 5, 2) := by decide +kernel
theorem dX10_say_77 : decode cX10_say 77 = .ok (.ireturn, 1) := by decide +kernel
theorem dX10_say_78 : decode cX10_say 78 = .ok (.iload_n 1, 1) := by decide +kernel
theorem dX10_say_79 : decode cX10_say 79 = .ok (.istore 6, 2) := by decide +kernel
theorem dX10_say_81 : decode cX10_say 81 = .ok (.iconst 0, 1) := by decide +kernel
theorem dX10_say_82 : decode cX10_say 82 = .ok (.istore 7, 2) := by decide +kernel
theorem dX10_say_84 : decode cX10_say 84 = .ok (.iconst 0, 1) := by decide +kernel
theorem dX10_say_85 : decode cX10_say 85 = .ok (.istore 8, 2) := by decide +kernel
theorem dX10_say_87 : decode cX10_say 87 = .ok (.iload 8, 2) := by decide +kernel
theorem dX10_say_89 : decode cX10_say 89 = .ok (.iload 4, 2) := by decide +kernel
theorem dX10_say_91 : decode cX10_say 91 = .ok (.if_icmp .gt 63, 3) := by decide +kernel
theorem dX10_say_94 : decode cX10_say 94 = .ok (.iload 6, 2) := by decide +kernel
theorem dX10_say_96 : decode cX10_say 96 = .ok (.bipush 99, 2) := by decide +kernel
theorem dX10_say_98 : decode cX10_say 98 = .ok (.invokestatic 145, 3) := by decide +kernel
theorem dX10_say_101 : decode cX10_say 101 = .ok (.istore 7, 2) := by decide +kernel
theorem dX10_say_103 : decode cX10_say 103 = .ok (.aload_n 0, 1) := by decide +kernel
theorem dX10_say_104 : decode cX10_say 104 = .ok (.getfield 40, 3) := by decide +kernel
theorem dX10_say_107 : decode cX10_say 107 = .ok (.iload 7, 2) := by decide +kernel
theorem dX10_say_109 : decode cX10_say 109 = .ok (.baload, 1) := by decide +kernel
theorem dX10_say_110 : decode cX10_say 110 = .ok (.ifCond .eq 25, 3) := by decide +kernel
theorem dX10_say_113 : decode cX10_say 113 = .ok (.aload_n 0, 1) := by decide +kernel
theorem dX10_say_114 : decode cX10_say 114 = .ok (.getfield 44, 3) := by decide +kernel
theorem dX10_say_117 : decode cX10_say 117 = .ok (.iload 6, 2) := by decide +kernel
theorem dX10_say_119 : decode cX10_say 119 = .ok (.iload 7, 2) := by decide +kernel
theorem dX10_say_121 : decode cX10_say 121 = .ok (.isub, 1) := by decide +kernel
theorem dX10_say_122 : decode cX10_say 122 = .ok (.iaload, 1) := by decide +kernel
theorem dX10_say_123 : decode cX10_say 123 = .ok (.aload_n 0, 1) := by decide +kernel
theorem dX10_say_124 : decode cX10_say 124 = .ok (.getfield 44, 3) := by decide +kernel
theorem dX10_say_127 : decode cX10_say 127 = .ok (.iload 6, 2) := by decide +kernel
theorem dX10_say_129 : decode cX10_say 129 = .ok (.iaload, 1) := by decide +kernel
theorem dX10_say_130 : decode cX10_say 130 = .ok (.iconst 1, 1) := by decide +kernel
theorem dX10_say_131 : decode cX10_say 131 = .ok (.isub, 1) := by decide +kernel
theorem dX10_say_132 : decode cX10_say 132 = .ok (.if_icmp .eq 9, 3) := by decide +kernel
theorem dX10_say_135 : decode cX10_say 135 = .ok (.iinc 7 (-1), 3) := by decide +kernel
theorem dX10_say_138 : decode cX10_say 138 = .ok (.goto (-35), 3) := by decide +kernel
theorem dX10_say_141 : decode cX10_say 141 = .ok (.iload 6, 2) := by decide +kernel
theorem dX10_say_143 : decode cX10_say 143 = .ok (.iload 7, 2) := by decide +kernel
theorem dX10_say_145 : decode cX10_say 145 = .ok (.isub, 1) := by decide +kernel
theorem dX10_say_146 : decode cX10_say 146 = .ok (.istore 6, 2) := by decide +kernel
theorem dX10_say_148 : decode cX10_say 148 = .ok (.iinc 8 1, 3) := by decide +kernel
theorem dX10_say_151 : decode cX10_say 151 = .ok (.goto (-64), 3) := by decide +kernel
theorem dX10_say_154 : decode cX10_say 154 = .ok (.iload 7, 2) := by decide +kernel
theorem dX10_say_156 : decode cX10_say 156 = .ok (.ireturn, 1) := by decide +kernel
theorem dX10_turned_0 : decode cX10_turned 0 = .ok (.aload_n 0, 1) := by decide +kernel
theorem dX10_turned_1 : decode cX10_turned 1 = .ok (.iload_n 1, 1) := by decide +kernel
theorem dX10_turned_2 : decode cX10_turned 2 = .ok (.iload 4, 2) := by decide +kernel
theorem dX10_turned_4 : decode cX10_turned 4 = .ok (.iload 5, 2) := by decide +kernel
theorem dX10_turned_6 : decode cX10_turned 6 = .ok (.iload 6, 2) := by decide +kernel
theorem dX10_turned_8 : decode cX10_turned 8 = .ok (.iload 7, 2) := by decide +kernel
theorem dX10_turned_10 : decode cX10_turned 10 = .ok (.iload_n 2, 1) := by decide +kernel
theorem dX10_turned_11 : decode cX10_turned 11 = .ok (.invokestatic 133, 3) := by decide +kernel
theorem dX10_turned_14 : decode cX10_turned 14 = .ok (.ifCond .eq 14, 3) := by decide +kernel
theorem dX10_turned_17 : decode cX10_turned 17 = .ok (.iload_n 3, 1) := by decide +kernel
theorem dX10_turned_18 : decode cX10_turned 18 = .ok (.invokestatic 133, 3) := by decide +kernel
theorem dX10_turned_21 : decode cX10_turned 21 = .ok (.ifCond .eq 7, 3) := by decide +kernel
theorem dX10_turned_24 : decode cX10_turned 24 = .ok (.iconst 1, 1) := by decide +kernel
theorem dX10_turned_25 : decode cX10_turned 25 = .ok (.goto 4, 3) := by decide +kernel
theorem dX10_turned_28 : decode cX10_turned 28 = .ok (.iconst 0, 1) := by decide +kernel
theorem dX10_turned_29 : decode cX10_turned 29 = .ok (.invokevirtual 160, 3) := by decide +kernel
theorem dX10_turned_32 : decode cX10_turned 32 = .ok (.istore 8, 2) := by decide +kernel
theorem dX10_turned_34 : decode cX10_turned 34 = .ok (.iload 8, 2) := by decide +kernel
theorem dX10_turned_36 : decode cX10_turned 36 = .ok (.ifCond .ge 6, 3) := by decide +kernel
theorem dX10_turned_39 : decode cX10_turned 39 = .ok (.iload 8, 2) := by decide +kernel
theorem dX10_turned_41 : decode cX10_turned 41 = .ok (.ireturn, 1) := by decide +kernel
theorem dX10_turned_42 : decode cX10_turned 42 = .ok (.aload_n 0, 1) := by decide +kernel
theorem dX10_turned_43 : decode cX10_turned 43 = .ok (.iload_n 1, 1) := by decide +kernel
theorem dX10_turned_44 : decode cX10_turned 44 = .ok (.iload_n 2, 1) := by decide +kernel
theorem dX10_turned_45 : decode cX10_turned 45 = .ok (.bipush 100, 2) := by decide +kernel
theorem dX10_turned_47 : decode cX10_turned 47 = .ok (.iload 4, 2) := by decide +kernel
theorem dX10_turned_49 : decode cX10_turned 49 = .ok (.imul, 1) := by decide +kernel
theorem dX10_turned_50 : decode cX10_turned 50 = .ok (.iload 6, 2) := by decide +kernel
theorem dX10_turned_52 : decode cX10_turned 52 = .ok (.iadd, 1) := by decide +kernel
theorem dX10_turned_53 : decode cX10_turned 53 = .ok (.iload 7, 2) := by decide +kernel
theorem dX10_turned_55 : decode cX10_turned 55 = .ok (.invokevirtual 164, 3) := by decide +kernel
theorem dX10_turned_58 : decode cX10_turned 58 = .ok (.istore 9, 2) := by decide +kernel
theorem dX10_turned_60 : decode cX10_turned 60 = .ok (.iload 9, 2) := by decide +kernel
theorem dX10_turned_62 : decode cX10_turned 62 = .ok (.i2l, 1) := by decide +kernel
theorem dX10_turned_63 : decode cX10_turned 63 = .ok (.lconst 0, 1) := by decide +kernel
theorem dX10_turned_64 : decode cX10_turned 64 = .ok (.ldc2_w 167, 3) := by decide +kernel
theorem dX10_turned_67 : decode cX10_turned 67 = .ok (.invokestatic 82, 3) := by decide +kernel
theorem dX10_turned_70 : decode cX10_turned 70 = .ok (.ifCond .ne 10, 3) := by decide +kernel
theorem dX10_turned_73 : decode cX10_turned 73 = .ok (.aload_n 0, 1) := by decide +kernel
theorem dX10_turned_74 : decode cX10_turned 74 = .ok (.bipush (-9), 2) := by decide +kernel
theorem dX10_turned_76 : decode cX10_turned 76 = .ok (.invokevirtual 76, 3) := by decide +kernel
theorem dX10_turned_79 : decode cX10_turned 79 = .ok (.ireturn, 1) := by decide +kernel
theorem dX10_turned_80 : decode cX10_turned 80 = .ok (.aload_n 0, 1) := by decide +kernel
theorem dX10_turned_81 : decode cX10_turned 81 = .ok (.iload_n 1, 1) := by decide +kernel
theorem dX10_turned_82 : decode cX10_turned 82 = .ok (.iload_n 3, 1) := by decide +kernel
theorem dX10_turned_83 : decode cX10_turned 83 = .ok (.iload 9, 2) := by decide +kernel
theorem dX10_turned_85 : decode cX10_turned 85 = .ok (.invokevirtual 169, 3) := by decide +kernel
theorem dX10_turned_88 : decode cX10_turned 88 = .ok (.aload_n 0, 1) := by decide +kernel
theorem dX10_turned_89 : decode cX10_turned 89 = .ok (.aload_n 0, 1) := by decide +kernel
theorem dX10_turned_90 : decode cX10_turned 90 = .ok (.getfield 44, 3) := by decide +kernel
theorem dX10_turned_93 : decode cX10_turned 93 = .ok (.iload 9, 2) := by decide +kernel
theorem dX10_turned_95 : decode cX10_turned 95 = .ok (.iaload, 1) := by decide +kernel
theorem dX10_turned_96 : decode cX10_turned 96 = .ok (.sipush 5000, 3) := by decide +kernel
theorem dX10_turned_99 : decode cX10_turned 99 = .ok (.if_icmp .lt 8, 3) := by decide +kernel
theorem dX10_turned_102 : decode cX10_turned 102 = .ok (.bipush (-9), 2) := by decide +kernel
theorem dX10_turned_104 : decode cX10_turned 104 = .ok (.goto 10, 3) := by decide +kernel
theorem dX10_turned_107 : decode cX10_turned 107 = .ok (.aload_n 0, 1) := by decide +kernel
theorem dX10_turned_108 : decode cX10_turned 108 = .ok (.getfield 44, 3) := by decide +kernel
theorem dX10_turned_111 : decode cX10_turned 111 = .ok (.iload 9, 2) := by decide +kernel
theorem dX10_turned_113 : decode cX10_turned 113 = .ok (.iaload, 1) := by decide +kernel
theorem dX10_turned_114 : decode cX10_turned 114 = .ok (.invokevirtual 76, 3) := by decide +kernel
theorem dX10_turned_117 : decode cX10_turned 117 = .ok (.ireturn, 1) := by decide +kernel
theorem dX10_child_0 : decode cX10_child 0 = .ok (.iload_n 1, 1) := by decide +kernel
theorem dX10_child_1 : decode cX10_child 1 = .ok (.invokestatic 130, 3) := by decide +kernel
theorem dX10_child_4 : decode cX10_child 4 = .ok (.ifCond .eq 9, 3) := by decide +kernel
theorem dX10_child_7 : decode cX10_child 7 = .ok (.aload_n 0, 1) := by decide +kernel
theorem dX10_child_8 : decode cX10_child 8 = .ok (.iconst (-1), 1) := by decide +kernel
theorem dX10_child_9 : decode cX10_child 9 = .ok (.invokevirtual 76, 3) := by decide +kernel
theorem dX10_child_12 : decode cX10_child 12 = .ok (.ireturn, 1) := by decide +kernel
theorem dX10_child_13 : decode cX10_child 13 = .ok (.aload_n 0, 1) := by decide +kernel
theorem dX10_child_14 : decode cX10_child 14 = .ok (.iload 4, 2) := by decide +kernel
theorem dX10_child_16 : decode cX10_child 16 = .ok (.iload 5, 2) := by decide +kernel
theorem dX10_child_18 : decode cX10_child 18 = .ok (.iload 6, 2) := by decide +kernel
theorem dX10_child_20 : decode cX10_child 20 = .ok (.iload 7, 2) := by decide +kernel
theorem dX10_child_22 : decode cX10_child 22 = .ok (.i2l, 1) := by decide +kernel
theorem dX10_child_23 : decode cX10_child 23 = .ok (.iload_n 2, 1) := by decide +kernel
theorem dX10_child_24 : decode cX10_child 24 = .ok (.invokestatic 133, 3) := by decide +kernel
theorem dX10_child_27 : decode cX10_child 27 = .ok (.ifCond .eq 25, 3) := by decide +kernel
theorem dX10_child_30 : decode cX10_child 30 = .ok (.iload_n 3, 1) := by decide +kernel
theorem dX10_child_31 : decode cX10_child 31 = .ok (.invokestatic 172, 3) := by decide +kernel
theorem dX10_child_34 : decode cX10_child 34 = .ok (.ifCond .eq 18, 3) := by decide +kernel
theorem dX10_child_37 : decode cX10_child 37 = .ok (.iload 8, 2) := by decide +kernel
theorem dX10_child_39 : decode cX10_child 39 = .ok (.i2l, 1) := by decide +kernel
theorem dX10_child_40 : decode cX10_child 40 = .ok (.lconst 0, 1) := by decide +kernel
theorem dX10_child_41 : decode cX10_child 41 = .ok (.lconst 1, 1) := by decide +kernel
theorem dX10_child_42 : decode cX10_child 42 = .ok (.invokestatic 82, 3) := by decide +kernel
theorem dX10_child_45 : decode cX10_child 45 = .ok (.ifCond .eq 7, 3) := by decide +kernel
theorem dX10_child_48 : decode cX10_child 48 = .ok (.iconst 1, 1) := by decide +kernel
theorem dX10_child_49 : decode cX10_child 49 = .ok (.goto 4, 3) := by decide +kernel
theorem dX10_child_52 : decode cX10_child 52 = .ok (.iconst 0, 1) := by decide +kernel
theorem dX10_child_53 : decode cX10_child 53 = .ok (.invokevirtual 120, 3) := by decide +kernel
theorem dX10_child_56 : decode cX10_child 56 = .ok (.istore 9, 2) := by decide +kernel
theorem dX10_child_58 : decode cX10_child 58 = .ok (.iload 9, 2) := by decide +kernel
theorem dX10_child_60 : decode cX10_child 60 = .ok (.ifCond .ge 6, 3) := by decide +kernel
theorem dX10_child_63 : decode cX10_child 63 = .ok (.iload 9, 2) := by decide +kernel
theorem dX10_child_65 : decode cX10_child 65 = .ok (.ireturn, 1) := by decide +kernel
theorem dX10_child_66 : decode cX10_child 66 = .ok (.bipush 100, 2) := by decide +kernel
theorem dX10_child_68 : decode cX10_child 68 = .ok (.iload 4, 2) := by decide +kernel
theorem dX10_child_70 : decode cX10_child 70 = .ok (.imul, 1) := by decide +kernel
theorem dX10_child_71 : decode cX10_child 71 = .ok (.iload 6, 2) := by decide +kernel
theorem dX10_child_73 : decode cX10_child 73 = .ok (.iadd, 1) := by decide +kernel
theorem dX10_child_74 : decode cX10_child 74 = .ok (.istore 10, 2) := by decide +kernel
theorem dX10_child_76 : decode cX10_child 76 = .ok (.iload 7, 2) := by decide +kernel
theorem dX10_child_78 : decode cX10_child 78 = .ok (.bipush 12, 2) := by decide +kernel
theorem dX10_child_80 : decode cX10_child 80 = .ok (.if_icmp .le 10, 3) := by decide +kernel
theorem dX10_child_83 : decode cX10_child 83 = .ok (.aload_n 0, 1) := by decide +kernel
theorem dX10_child_84 : decode cX10_child 84 = .ok (.bipush (-2), 2) := by decide +kernel
theorem dX10_child_86 : decode cX10_child 86 = .ok (.invokevirtual 76, 3) := by decide +kernel
theorem dX10_child_89 : decode cX10_child 89 = .ok (.ireturn, 1) := by decide +kernel
theorem dX10_child_90 : decode cX10_child 90 = .ok (.iconst 0, 1) := by decide +kernel
theorem dX10_child_91 : decode cX10_child 91 = .ok (.istore 11, 2) := by decide +kernel
theorem dX10_child_93 : decode cX10_child 93 = .ok (.iload 11, 2) := by decide +kernel
theorem dX10_child_95 : decode cX10_child 95 = .ok (.iload 7, 2) := by decide +kernel
theorem dX10_child_97 : decode cX10_child 97 = .ok (.if_icmp .ge 37, 3) := by decide +kernel
theorem dX10_child_100 : decode cX10_child 100 = .ok (.aload_n 0, 1) := by decide +kernel
theorem dX10_child_101 : decode cX10_child 101 = .ok (.getfield 56, 3) := by decide +kernel
theorem dX10_child_104 : decode cX10_child 104 = .ok (.iload 10, 2) := by decide +kernel
theorem dX10_child_106 : decode cX10_child 106 = .ok (.iload 11, 2) := by decide +kernel
theorem dX10_child_108 : decode cX10_child 108 = .ok (.iadd, 1) := by decide +kernel
theorem dX10_child_109 : decode cX10_child 109 = .ok (.iaload, 1) := by decide +kernel
theorem dX10_child_110 : decode cX10_child 110 = .ok (.i2l, 1) := by decide +kernel
theorem dX10_child_111 : decode cX10_child 111 = .ok (.lconst 0, 1) := by decide +kernel
theorem dX10_child_112 : decode cX10_child 112 = .ok (.ldc2_w 167, 3) := by decide +kernel
theorem dX10_child_115 : decode cX10_child 115 = .ok (.invokestatic 82, 3) := by decide +kernel
theorem dX10_child_118 : decode cX10_child 118 = .ok (.ifCond .ne 10, 3) := by decide +kernel
theorem dX10_child_121 : decode cX10_child 121 = .ok (.aload_n 0, 1) := by decide +kernel
theorem dX10_child_122 : decode cX10_child 122 = .ok (.bipush (-2), 2) := by decide +kernel
theorem dX10_child_124 : decode cX10_child 124 = .ok (.invokevirtual 76, 3) := by decide +kernel
theorem dX10_child_127 : decode cX10_child 127 = .ok (.ireturn, 1) := by decide +kernel
theorem dX10_child_128 : decode cX10_child 128 = .ok (.iinc 11 1, 3) := by decide +kernel
theorem dX10_child_131 : decode cX10_child 131 = .ok (.goto (-38), 3) := by decide +kernel
theorem dX10_child_134 : decode cX10_child 134 = .ok (.iconst 0, 1) := by decide +kernel
theorem dX10_child_135 : decode cX10_child 135 = .ok (.istore 11, 2) := by decide +kernel
theorem dX10_child_137 : decode cX10_child 137 = .ok (.bipush (-9), 2) := by decide +kernel
theorem dX10_child_139 : decode cX10_child 139 = .ok (.istore 12, 2) := by decide +kernel
theorem dX10_child_141 : decode cX10_child 141 = .ok (.iconst 1, 1) := by decide +kernel
theorem dX10_child_142 : decode cX10_child 142 = .ok (.istore 13, 2) := by decide +kernel
theorem dX10_child_144 : decode cX10_child 144 = .ok (.iload 13, 2) := by decide +kernel
theorem dX10_child_146 : decode cX10_child 146 = .ok (.bipush 100, 2) := by decide +kernel
theorem dX10_child_148 : decode cX10_child 148 = .ok (.if_icmp .ge 95, 3) := by decide +kernel
theorem dX10_child_151 : decode cX10_child 151 = .ok (.aload_n 0, 1) := by decide +kernel
theorem dX10_child_152 : decode cX10_child 152 = .ok (.iload_n 1, 1) := by decide +kernel
theorem dX10_child_153 : decode cX10_child 153 = .ok (.iload_n 2, 1) := by decide +kernel
theorem dX10_child_154 : decode cX10_child 154 = .ok (.bipush (-9), 2) := by decide +kernel
theorem dX10_child_156 : decode cX10_child 156 = .ok (.invokevirtual 149, 3) := by decide +kernel
theorem dX10_child_159 : decode cX10_child 159 = .ok (.aload_n 0, 1) := by decide +kernel
theorem dX10_child_160 : decode cX10_child 160 = .ok (.getfield 40, 3) := by decide +kernel
theorem dX10_child_163 : decode cX10_child 163 = .ok (.iload 13, 2) := by decide +kernel
theorem dX10_child_165 : decode cX10_child 165 = .ok (.iconst 1, 1) := by decide +kernel
theorem dX10_child_166 : decode cX10_child 166 = .ok (.bastore, 1) := by decide +kernel
theorem dX10_child_167 : decode cX10_child 167 = .ok (.aload_n 0, 1) := by decide +kernel
theorem dX10_child_168 : decode cX10_child 168 = .ok (.sipush 999, 3) := by decide +kernel
theorem dX10_child_171 : decode cX10_child 171 = .ok (.invokevirtual 153, 3) := by decide +kernel
theorem dX10_child_174 : decode cX10_child 174 = .ok (.iconst 0, 1) := by decide +kernel
theorem dX10_child_175 : decode cX10_child 175 = .ok (.istore 14, 2) := by decide +kernel
theorem dX10_child_177 : decode cX10_child 177 = .ok (.iconst 0, 1) := by decide +kernel
theorem dX10_child_178 : decode cX10_child 178 = .ok (.istore 15, 2) := by decide +kernel
theorem dX10_child_180 : decode cX10_child 180 = .ok (.iload 15, 2) := by decide +kernel
theorem dX10_child_182 : decode cX10_child 182 = .ok (.iload 7, 2) := by decide +kernel
theorem dX10_child_184 : decode cX10_child 184 = .ok (.if_icmp .ge 38, 3) := by decide +kernel
theorem dX10_child_187 : decode cX10_child 187 = .ok (.iload 14, 2) := by decide +kernel
theorem dX10_child_189 : decode cX10_child 189 = .ok (.aload_n 0, 1) := by decide +kernel
theorem dX10_child_190 : decode cX10_child 190 = .ok (.getfield 44, 3) := by decide +kernel
theorem dX10_child_193 : decode cX10_child 193 = .ok (.aload_n 0, 1) := by decide +kernel
theorem dX10_child_194 : decode cX10_child 194 = .ok (.getfield 56, 3) := by decide +kernel
theorem dX10_child_197 : decode cX10_child 197 = .ok (.iload 10, 2) := by decide +kernel
theorem dX10_child_199 : decode cX10_child 199 = .ok (.iload 15, 2) := by decide +kernel
theorem dX10_child_201 : decode cX10_child 201 = .ok (.iadd, 1) := by decide +kernel
theorem dX10_child_202 : decode cX10_child 202 = .ok (.iaload, 1) := by decide +kernel
theorem dX10_child_203 : decode cX10_child 203 = .ok (.iaload, 1) := by decide +kernel
theorem dX10_child_204 : decode cX10_child 204 = .ok (.iload_n 3, 1) := by decide +kernel
theorem dX10_child_205 : decode cX10_child 205 = .ok (.if_icmp .gt 7, 3) := by decide +kernel
theorem dX10_child_208 : decode cX10_child 208 = .ok (.iconst 1, 1) := by decide +kernel
theorem dX10_child_209 : decode cX10_child 209 = .ok (.goto 4, 3) := by decide +kernel
theorem dX10_child_212 : decode cX10_child 212 = .ok (.iconst 0, 1) := by decide +kernel
theorem dX10_child_213 : decode cX10_child 213 = .ok (.iadd, 1) := by decide +kernel
theorem dX10_child_214 : decode cX10_child 214 = .ok (.istore 14, 2) := by decide +kernel
theorem dX10_child_216 : decode cX10_child 216 = .ok (.iinc 15 1, 3) := by decide +kernel
theorem dX10_child_219 : decode cX10_child 219 = .ok (.goto (-39), 3) := by decide +kernel
theorem dX10_child_222 : decode cX10_child 222 = .ok (.iload 14, 2) := by decide +kernel
theorem dX10_child_224 : decode cX10_child 224 = .ok (.iload 12, 2) := by decide +kernel
theorem dX10_child_226 : decode cX10_child 226 = .ok (.if_icmp .le 11, 3) := by decide +kernel
theorem dX10_child_229 : decode cX10_child 229 = .ok (.iload 13, 2) := by decide +kernel
theorem dX10_child_231 : decode cX10_child 231 = .ok (.istore 11, 2) := by decide +kernel
theorem dX10_child_233 : decode cX10_child 233 = .ok (.iload 14, 2) := by decide +kernel
theorem dX10_child_235 : decode cX10_child 235 = .ok (.istore 12, 2) := by decide +kernel
theorem dX10_child_237 : decode cX10_child 237 = .ok (.iinc 13 1, 3) := by decide +kernel
theorem dX10_child_240 : decode cX10_child 240 = .ok (.goto (-96), 3) := by decide +kernel
theorem dX10_child_243 : decode cX10_child 243 = .ok (.aload_n 0, 1) := by decide +kernel
theorem dX10_child_244 : decode cX10_child 244 = .ok (.iload 8, 2) := by decide +kernel
theorem dX10_child_246 : decode cX10_child 246 = .ok (.ifCond .ne 8, 3) := by decide +kernel
theorem dX10_child_249 : decode cX10_child 249 = .ok (.iload 11, 2) := by decide +kernel
theorem dX10_child_251 : decode cX10_child 251 = .ok (.goto 5, 3) := by decide +kernel
theorem dX10_child_254 : decode cX10_child 254 = .ok (.iload 12, 2) := by decide +kernel
theorem dX10_child_256 : decode cX10_child 256 = .ok (.invokevirtual 76, 3) := by decide +kernel
theorem dX10_child_259 : decode cX10_child 259 = .ok (.ireturn, 1) := by decide +kernel
theorem dX10_both_0 : decode cX10_both 0 = .ok (.iload_n 1, 1) := by decide +kernel
theorem dX10_both_1 : decode cX10_both 1 = .ok (.i2l, 1) := by decide +kernel
theorem dX10_both_2 : decode cX10_both 2 = .ok (.lconst 0, 1) := by decide +kernel
theorem dX10_both_3 : decode cX10_both 3 = .ok (.ldc2_w 167, 3) := by decide +kernel
theorem dX10_both_6 : decode cX10_both 6 = .ok (.invokestatic 82, 3) := by decide +kernel
theorem dX10_both_9 : decode cX10_both 9 = .ok (.ifCond .eq 17, 3) := by decide +kernel
theorem dX10_both_12 : decode cX10_both 12 = .ok (.iload_n 2, 1) := by decide +kernel
theorem dX10_both_13 : decode cX10_both 13 = .ok (.invokestatic 172, 3) := by decide +kernel
theorem dX10_both_16 : decode cX10_both 16 = .ok (.ifCond .eq 10, 3) := by decide +kernel
theorem dX10_both_19 : decode cX10_both 19 = .ok (.iload_n 3, 1) := by decide +kernel
theorem dX10_both_20 : decode cX10_both 20 = .ok (.invokestatic 133, 3) := by decide +kernel
theorem dX10_both_23 : decode cX10_both 23 = .ok (.ifCond .ne 6, 3) := by decide +kernel
theorem dX10_both_26 : decode cX10_both 26 = .ok (.bipush (-2), 2) := by decide +kernel
theorem dX10_both_28 : decode cX10_both 28 = .ok (.ireturn, 1) := by decide +kernel
theorem dX10_both_29 : decode cX10_both 29 = .ok (.aload_n 0, 1) := by decide +kernel
theorem dX10_both_30 : decode cX10_both 30 = .ok (.iconst 0, 1) := by decide +kernel
theorem dX10_both_31 : decode cX10_both 31 = .ok (.iload_n 3, 1) := by decide +kernel
theorem dX10_both_32 : decode cX10_both 32 = .ok (.sipush 999, 3) := by decide +kernel
theorem dX10_both_35 : decode cX10_both 35 = .ok (.invokevirtual 169, 3) := by decide +kernel
theorem dX10_both_38 : decode cX10_both 38 = .ok (.iconst 0, 1) := by decide +kernel
theorem dX10_both_39 : decode cX10_both 39 = .ok (.istore 4, 2) := by decide +kernel
theorem dX10_both_41 : decode cX10_both 41 = .ok (.iload 4, 2) := by decide +kernel
theorem dX10_both_43 : decode cX10_both 43 = .ok (.sipush 999, 3) := by decide +kernel
theorem dX10_both_46 : decode cX10_both 46 = .ok (.if_icmp .gt 32, 3) := by decide +kernel
theorem dX10_both_49 : decode cX10_both 49 = .ok (.aload_n 0, 1) := by decide +kernel
theorem dX10_both_50 : decode cX10_both 50 = .ok (.getfield 47, 3) := by decide +kernel
theorem dX10_both_53 : decode cX10_both 53 = .ok (.iload 4, 2) := by decide +kernel
theorem dX10_both_55 : decode cX10_both 55 = .ok (.aload_n 0, 1) := by decide +kernel
theorem dX10_both_56 : decode cX10_both 56 = .ok (.getfield 44, 3) := by decide +kernel
theorem dX10_both_59 : decode cX10_both 59 = .ok (.iload 4, 2) := by decide +kernel
theorem dX10_both_61 : decode cX10_both 61 = .ok (.iaload, 1) := by decide +kernel
theorem dX10_both_62 : decode cX10_both 62 = .ok (.iload_n 2, 1) := by decide +kernel
theorem dX10_both_63 : decode cX10_both 63 = .ok (.if_icmp .gt 7, 3) := by decide +kernel
theorem dX10_both_66 : decode cX10_both 66 = .ok (.iconst 1, 1) := by decide +kernel
theorem dX10_both_67 : decode cX10_both 67 = .ok (.goto 4, 3) := by decide +kernel
theorem dX10_both_70 : decode cX10_both 70 = .ok (.iconst 0, 1) := by decide +kernel
theorem dX10_both_71 : decode cX10_both 71 = .ok (.bastore, 1) := by decide +kernel
theorem dX10_both_72 : decode cX10_both 72 = .ok (.iinc 4 1, 3) := by decide +kernel
theorem dX10_both_75 : decode cX10_both 75 = .ok (.goto (-34), 3) := by decide +kernel
theorem dX10_both_78 : decode cX10_both 78 = .ok (.aload_n 0, 1) := by decide +kernel
theorem dX10_both_79 : decode cX10_both 79 = .ok (.iconst 1, 1) := by decide +kernel
theorem dX10_both_80 : decode cX10_both 80 = .ok (.iload_n 3, 1) := by decide +kernel
theorem dX10_both_81 : decode cX10_both 81 = .ok (.sipush 999, 3) := by decide +kernel
theorem dX10_both_84 : decode cX10_both 84 = .ok (.invokevirtual 169, 3) := by decide +kernel
theorem dX10_both_87 : decode cX10_both 87 = .ok (.iload_n 1, 1) := by decide +kernel
theorem dX10_both_88 : decode cX10_both 88 = .ok (.istore 4, 2) := by decide +kernel
theorem dX10_both_90 : decode cX10_both 90 = .ok (.iload 4, 2) := by decide +kernel
theorem dX10_both_92 : decode cX10_both 92 = .ok (.sipush 999, 3) := by decide +kernel
theorem dX10_both_95 : decode cX10_both 95 = .ok (.if_icmp .gt 33, 3) := by decide +kernel
theorem dX10_both_98 : decode cX10_both 98 = .ok (.aload_n 0, 1) := by decide +kernel
theorem dX10_both_99 : decode cX10_both 99 = .ok (.getfield 47, 3) := by decide +kernel
theorem dX10_both_102 : decode cX10_both 102 = .ok (.iload 4, 2) := by decide +kernel
theorem dX10_both_104 : decode cX10_both 104 = .ok (.baload, 1) := by decide +kernel
theorem dX10_both_105 : decode cX10_both 105 = .ok (.ifCond .eq 17, 3) := by decide +kernel
theorem dX10_both_108 : decode cX10_both 108 = .ok (.aload_n 0, 1) := by decide +kernel
theorem dX10_both_109 : decode cX10_both 109 = .ok (.getfield 44, 3) := by decide +kernel
theorem dX10_both_112 : decode cX10_both 112 = .ok (.iload 4, 2) := by decide +kernel
theorem dX10_both_114 : decode cX10_both 114 = .ok (.iaload, 1) := by decide +kernel
theorem dX10_both_115 : decode cX10_both 115 = .ok (.iload_n 2, 1) := by decide +kernel
theorem dX10_both_116 : decode cX10_both 116 = .ok (.if_icmp .gt 6, 3) := by decide +kernel
theorem dX10_both_119 : decode cX10_both 119 = .ok (.iload 4, 2) := by decide +kernel
theorem dX10_both_121 : decode cX10_both 121 = .ok (.ireturn, 1) := by decide +kernel
theorem dX10_both_122 : decode cX10_both 122 = .ok (.iinc 4 1, 3) := by decide +kernel
theorem dX10_both_125 : decode cX10_both 125 = .ok (.goto (-35), 3) := by decide +kernel
theorem dX10_both_128 : decode cX10_both 128 = .ok (.bipush (-9), 2) := by decide +kernel
theorem dX10_both_130 : decode cX10_both 130 = .ok (.ireturn, 1) := by decide +kernel
theorem dX10_written_0 : decode cX10_written 0 = .ok (.aload_n 0, 1) := by decide +kernel
theorem dX10_written_1 : decode cX10_written 1 = .ok (.iload_n 1, 1) := by decide +kernel
theorem dX10_written_2 : decode cX10_written 2 = .ok (.iload_n 2, 1) := by decide +kernel
theorem dX10_written_3 : decode cX10_written 3 = .ok (.iload_n 3, 1) := by decide +kernel
theorem dX10_written_4 : decode cX10_written 4 = .ok (.iload 4, 2) := by decide +kernel
theorem dX10_written_6 : decode cX10_written 6 = .ok (.iload 5, 2) := by decide +kernel
theorem dX10_written_8 : decode cX10_written 8 = .ok (.iload 6, 2) := by decide +kernel
theorem dX10_written_10 : decode cX10_written 10 = .ok (.i2l, 1) := by decide +kernel
theorem dX10_written_11 : decode cX10_written 11 = .ok (.lconst 0, 1) := by decide +kernel
theorem dX10_written_12 : decode cX10_written 12 = .ok (.ldc2_w 80, 3) := by decide +kernel
theorem dX10_written_15 : decode cX10_written 15 = .ok (.invokestatic 82, 3) := by decide +kernel
theorem dX10_written_18 : decode cX10_written 18 = .ok (.invokevirtual 160, 3) := by decide +kernel
theorem dX10_written_21 : decode cX10_written 21 = .ok (.istore 7, 2) := by decide +kernel
theorem dX10_written_23 : decode cX10_written 23 = .ok (.iload 7, 2) := by decide +kernel
theorem dX10_written_25 : decode cX10_written 25 = .ok (.ifCond .ge 6, 3) := by decide +kernel
theorem dX10_written_28 : decode cX10_written 28 = .ok (.iload 7, 2) := by decide +kernel
theorem dX10_written_30 : decode cX10_written 30 = .ok (.ireturn, 1) := by decide +kernel
theorem dX10_written_31 : decode cX10_written 31 = .ok (.iconst 0, 1) := by decide +kernel
theorem dX10_written_32 : decode cX10_written 32 = .ok (.istore 8, 2) := by decide +kernel
theorem dX10_written_34 : decode cX10_written 34 = .ok (.bipush (-9), 2) := by decide +kernel
theorem dX10_written_36 : decode cX10_written 36 = .ok (.istore 9, 2) := by decide +kernel
theorem dX10_written_38 : decode cX10_written 38 = .ok (.bipush (-9), 2) := by decide +kernel
theorem dX10_written_40 : decode cX10_written 40 = .ok (.istore 10, 2) := by decide +kernel
theorem dX10_written_42 : decode cX10_written 42 = .ok (.iconst 0, 1) := by decide +kernel
theorem dX10_written_43 : decode cX10_written 43 = .ok (.istore 11, 2) := by decide +kernel
theorem dX10_written_45 : decode cX10_written 45 = .ok (.iload 11, 2) := by decide +kernel
theorem dX10_written_47 : decode cX10_written 47 = .ok (.bipush 110, 2) := by decide +kernel
theorem dX10_written_49 : decode cX10_written 49 = .ok (.if_icmp .ge 49, 3) := by decide +kernel
theorem dX10_written_52 : decode cX10_written 52 = .ok (.aload_n 0, 1) := by decide +kernel
theorem dX10_written_53 : decode cX10_written 53 = .ok (.iload_n 1, 1) := by decide +kernel
theorem dX10_written_54 : decode cX10_written 54 = .ok (.iload 11, 2) := by decide +kernel
theorem dX10_written_56 : decode cX10_written 56 = .ok (.bipush 100, 2) := by decide +kernel
theorem dX10_written_58 : decode cX10_written 58 = .ok (.iload_n 2, 1) := by decide +kernel
theorem dX10_written_59 : decode cX10_written 59 = .ok (.imul, 1) := by decide +kernel
theorem dX10_written_60 : decode cX10_written 60 = .ok (.iload 4, 2) := by decide +kernel
theorem dX10_written_62 : decode cX10_written 62 = .ok (.iadd, 1) := by decide +kernel
theorem dX10_written_63 : decode cX10_written 63 = .ok (.iload 5, 2) := by decide +kernel
theorem dX10_written_65 : decode cX10_written 65 = .ok (.invokevirtual 164, 3) := by decide +kernel
theorem dX10_written_68 : decode cX10_written 68 = .ok (.ifCond .lt 24, 3) := by decide +kernel
theorem dX10_written_71 : decode cX10_written 71 = .ok (.iinc 8 1, 3) := by decide +kernel
theorem dX10_written_74 : decode cX10_written 74 = .ok (.iload 9, 2) := by decide +kernel
theorem dX10_written_76 : decode cX10_written 76 = .ok (.ifCond .ge 8, 3) := by decide +kernel
theorem dX10_written_79 : decode cX10_written 79 = .ok (.iload 11, 2) := by decide +kernel
theorem dX10_written_81 : decode cX10_written 81 = .ok (.goto 5, 3) := by decide +kernel
theorem dX10_written_84 : decode cX10_written 84 = .ok (.iload 9, 2) := by decide +kernel
theorem dX10_written_86 : decode cX10_written 86 = .ok (.istore 9, 2) := by decide +kernel
theorem dX10_written_88 : decode cX10_written 88 = .ok (.iload 11, 2) := by decide +kernel
theorem dX10_written_90 : decode cX10_written 90 = .ok (.istore 10, 2) := by decide +kernel
theorem dX10_written_92 : decode cX10_written 92 = .ok (.iinc 11 1, 3) := by decide +kernel
theorem dX10_written_95 : decode cX10_written 95 = .ok (.goto (-50), 3) := by decide +kernel
theorem dX10_written_98 : decode cX10_written 98 = .ok (.aload_n 0, 1) := by decide +kernel
theorem dX10_written_99 : decode cX10_written 99 = .ok (.iload 6, 2) := by decide +kernel
theorem dX10_written_101 : decode cX10_written 101 = .ok (.ifCond .ne 8, 3) := by decide +kernel
theorem dX10_written_104 : decode cX10_written 104 = .ok (.iload 8, 2) := by decide +kernel
theorem dX10_written_106 : decode cX10_written 106 = .ok (.goto 16, 3) := by decide +kernel
theorem dX10_written_109 : decode cX10_written 109 = .ok (.iload 6, 2) := by decide +kernel
theorem dX10_written_111 : decode cX10_written 111 = .ok (.iconst 1, 1) := by decide +kernel
theorem dX10_written_112 : decode cX10_written 112 = .ok (.if_icmp .ne 8, 3) := by decide +kernel
theorem dX10_written_115 : decode cX10_written 115 = .ok (.iload 9, 2) := by decide +kernel
theorem dX10_written_117 : decode cX10_written 117 = .ok (.goto 5, 3) := by decide +kernel
theorem dX10_written_120 : decode cX10_written 120 = .ok (.iload 10, 2) := by decide +kernel
theorem dX10_written_122 : decode cX10_written 122 = .ok (.invokevirtual 76, 3) := by decide +kernel
theorem dX10_written_125 : decode cX10_written 125 = .ok (.ireturn, 1) := by decide +kernel
theorem dX10_saidOf_0 : decode cX10_saidOf 0 = .ok (.iconst 0, 1) := by decide +kernel
theorem dX10_saidOf_1 : decode cX10_saidOf 1 = .ok (.istore_n 2, 1) := by decide +kernel
theorem dX10_saidOf_2 : decode cX10_saidOf 2 = .ok (.iconst 1, 1) := by decide +kernel
