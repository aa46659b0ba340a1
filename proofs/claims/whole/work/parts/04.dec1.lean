theorem dX0_init_0 : decode cX0_init 0 = .ok (.aload_n 0, 1) := by decide +kernel
theorem dX0_init_1 : decode cX0_init 1 = .ok (.invokespecial 3, 3) := by decide +kernel
theorem dX0_init_4 : decode cX0_init 4 = .ok (.aload_n 0, 1) := by decide +kernel
theorem dX0_init_5 : decode cX0_init 5 = .ok (.sipush 1000, 3) := by decide +kernel
theorem dX0_init_8 : decode cX0_init 8 = .ok (.newarray .int, 2) := by decide +kernel
theorem dX0_init_10 : decode cX0_init 10 = .ok (.putfield 9, 3) := by decide +kernel
theorem dX0_init_13 : decode cX0_init 13 = .ok (.return_, 1) := by decide +kernel
theorem dX0_clear_0 : decode cX0_clear 0 = .ok (.iconst 0, 1) := by decide +kernel
theorem dX0_clear_1 : decode cX0_clear 1 = .ok (.istore_n 1, 1) := by decide +kernel
theorem dX0_clear_2 : decode cX0_clear 2 = .ok (.iload_n 1, 1) := by decide +kernel
theorem dX0_clear_3 : decode cX0_clear 3 = .ok (.aload_n 0, 1) := by decide +kernel
theorem dX0_clear_4 : decode cX0_clear 4 = .ok (.getfield 9, 3) := by decide +kernel
theorem dX0_clear_7 : decode cX0_clear 7 = .ok (.arraylength, 1) := by decide +kernel
theorem dX0_clear_8 : decode cX0_clear 8 = .ok (.if_icmp .ge 25, 3) := by decide +kernel
theorem dX0_clear_11 : decode cX0_clear 11 = .ok (.aload_n 0, 1) := by decide +kernel
theorem dX0_clear_12 : decode cX0_clear 12 = .ok (.getfield 9, 3) := by decide +kernel
theorem dX0_clear_15 : decode cX0_clear 15 = .ok (.iload_n 1, 1) := by decide +kernel
theorem dX0_clear_16 : decode cX0_clear 16 = .ok (.iload_n 1, 1) := by decide +kernel
theorem dX0_clear_17 : decode cX0_clear 17 = .ok (.ifCond .ne 7, 3) := by decide +kernel
theorem dX0_clear_20 : decode cX0_clear 20 = .ok (.iconst 0, 1) := by decide +kernel
theorem dX0_clear_21 : decode cX0_clear 21 = .ok (.goto 5, 3) := by decide +kernel
theorem dX0_clear_24 : decode cX0_clear 24 = .ok (.ldc 15, 2) := by decide +kernel
theorem dX0_clear_26 : decode cX0_clear 26 = .ok (.iastore, 1) := by decide +kernel
theorem dX0_clear_27 : decode cX0_clear 27 = .ok (.iinc 1 1, 3) := by decide +kernel
theorem dX0_clear_30 : decode cX0_clear 30 = .ok (.goto (-28), 3) := by decide +kernel
theorem dX0_clear_33 : decode cX0_clear 33 = .ok (.return_, 1) := by decide +kernel
theorem dX0_add_0 : decode cX0_add 0 = .ok (.iload_n 1, 1) := by decide +kernel
theorem dX0_add_1 : decode cX0_add 1 = .ok (.iconst 1, 1) := by decide +kernel
theorem dX0_add_2 : decode cX0_add 2 = .ok (.if_icmp .ge 4, 3) := by decide +kernel
theorem dX0_add_5 : decode cX0_add 5 = .ok (.return_, 1) := by decide +kernel
theorem dX0_add_6 : decode cX0_add 6 = .ok (.iload_n 1, 1) := by decide +kernel
theorem dX0_add_7 : decode cX0_add 7 = .ok (.istore_n 2, 1) := by decide +kernel
theorem dX0_add_8 : decode cX0_add 8 = .ok (.iload_n 2, 1) := by decide +kernel
theorem dX0_add_9 : decode cX0_add 9 = .ok (.aload_n 0, 1) := by decide +kernel
theorem dX0_add_10 : decode cX0_add 10 = .ok (.getfield 9, 3) := by decide +kernel
theorem dX0_add_13 : decode cX0_add 13 = .ok (.arraylength, 1) := by decide +kernel
theorem dX0_add_14 : decode cX0_add 14 = .ok (.if_icmp .ge 34, 3) := by decide +kernel
theorem dX0_add_17 : decode cX0_add 17 = .ok (.aload_n 0, 1) := by decide +kernel
theorem dX0_add_18 : decode cX0_add 18 = .ok (.getfield 9, 3) := by decide +kernel
theorem dX0_add_21 : decode cX0_add 21 = .ok (.iload_n 2, 1) := by decide +kernel
theorem dX0_add_22 : decode cX0_add 22 = .ok (.aload_n 0, 1) := by decide +kernel
theorem dX0_add_23 : decode cX0_add 23 = .ok (.getfield 9, 3) := by decide +kernel
theorem dX0_add_26 : decode cX0_add 26 = .ok (.iload_n 2, 1) := by decide +kernel
theorem dX0_add_27 : decode cX0_add 27 = .ok (.iaload, 1) := by decide +kernel
theorem dX0_add_28 : decode cX0_add 28 = .ok (.aload_n 0, 1) := by decide +kernel
theorem dX0_add_29 : decode cX0_add 29 = .ok (.getfield 9, 3) := by decide +kernel
theorem dX0_add_32 : decode cX0_add 32 = .ok (.iload_n 2, 1) := by decide +kernel
theorem dX0_add_33 : decode cX0_add 33 = .ok (.iload_n 1, 1) := by decide +kernel
theorem dX0_add_34 : decode cX0_add 34 = .ok (.isub, 1) := by decide +kernel
theorem dX0_add_35 : decode cX0_add 35 = .ok (.iaload, 1) := by decide +kernel
theorem dX0_add_36 : decode cX0_add 36 = .ok (.iconst 1, 1) := by decide +kernel
theorem dX0_add_37 : decode cX0_add 37 = .ok (.iadd, 1) := by decide +kernel
theorem dX0_add_38 : decode cX0_add 38 = .ok (.invokestatic 16, 3) := by decide +kernel
theorem dX0_add_41 : decode cX0_add 41 = .ok (.iastore, 1) := by decide +kernel
theorem dX0_add_42 : decode cX0_add 42 = .ok (.iinc 2 1, 3) := by decide +kernel
theorem dX0_add_45 : decode cX0_add 45 = .ok (.goto (-37), 3) := by decide +kernel
theorem dX0_add_48 : decode cX0_add 48 = .ok (.return_, 1) := by decide +kernel
theorem dX0_of_0 : decode cX0_of 0 = .ok (.iload_n 1, 1) := by decide +kernel
theorem dX0_of_1 : decode cX0_of 1 = .ok (.ifCond .lt 21, 3) := by decide +kernel
theorem dX0_of_4 : decode cX0_of 4 = .ok (.iload_n 1, 1) := by decide +kernel
theorem dX0_of_5 : decode cX0_of 5 = .ok (.aload_n 0, 1) := by decide +kernel
theorem dX0_of_6 : decode cX0_of 6 = .ok (.getfield 9, 3) := by decide +kernel
theorem dX0_of_9 : decode cX0_of 9 = .ok (.arraylength, 1) := by decide +kernel
theorem dX0_of_10 : decode cX0_of 10 = .ok (.if_icmp .ge 12, 3) := by decide +kernel
theorem dX0_of_13 : decode cX0_of 13 = .ok (.aload_n 0, 1) := by decide +kernel
theorem dX0_of_14 : decode cX0_of 14 = .ok (.getfield 9, 3) := by decide +kernel
theorem dX0_of_17 : decode cX0_of 17 = .ok (.iload_n 1, 1) := by decide +kernel
theorem dX0_of_18 : decode cX0_of 18 = .ok (.iaload, 1) := by decide +kernel
theorem dX0_of_19 : decode cX0_of 19 = .ok (.goto 5, 3) := by decide +kernel
theorem dX0_of_22 : decode cX0_of 22 = .ok (.ldc 15, 2) := by decide +kernel
theorem dX0_of_24 : decode cX0_of 24 = .ok (.ireturn, 1) := by decide +kernel
theorem dX0_within_0 : decode cX0_within 0 = .ok (.aload_n 0, 1) := by decide +kernel
theorem dX0_within_1 : decode cX0_within 1 = .ok (.iload_n 1, 1) := by decide +kernel
theorem dX0_within_2 : decode cX0_within 2 = .ok (.invokevirtual 22, 3) := by decide +kernel
theorem dX0_within_5 : decode cX0_within 5 = .ok (.iload_n 2, 1) := by decide +kernel
theorem dX0_within_6 : decode cX0_within 6 = .ok (.if_icmp .gt 7, 3) := by decide +kernel
theorem dX0_within_9 : decode cX0_within 9 = .ok (.iconst 1, 1) := by decide +kernel
theorem dX0_within_10 : decode cX0_within 10 = .ok (.goto 4, 3) := by decide +kernel
theorem dX0_within_13 : decode cX0_within 13 = .ok (.iconst 0, 1) := by decide +kernel
theorem dX0_within_14 : decode cX0_within 14 = .ok (.ireturn, 1) := by decide +kernel
theorem dX0_withinByOne_0 : decode cX0_withinByOne 0 = .ok (.iconst 0, 1) := by decide +kernel
theorem dX0_withinByOne_1 : decode cX0_withinByOne 1 = .ok (.istore 4, 2) := by decide +kernel
theorem dX0_withinByOne_3 : decode cX0_withinByOne 3 = .ok (.iload 4, 2) := by decide +kernel
theorem dX0_withinByOne_5 : decode cX0_withinByOne 5 = .ok (.iload_n 3, 1) := by decide +kernel
theorem dX0_withinByOne_6 : decode cX0_withinByOne 6 = .ok (.if_icmp .gt 28, 3) := by decide +kernel
theorem dX0_withinByOne_9 : decode cX0_withinByOne 9 = .ok (.aload_n 0, 1) := by decide +kernel
theorem dX0_withinByOne_10 : decode cX0_withinByOne 10 = .ok (.iload_n 2, 1) := by decide +kernel
theorem dX0_withinByOne_11 : decode cX0_withinByOne 11 = .ok (.iload 4, 2) := by decide +kernel
theorem dX0_withinByOne_13 : decode cX0_withinByOne 13 = .ok (.iload_n 1, 1) := by decide +kernel
theorem dX0_withinByOne_14 : decode cX0_withinByOne 14 = .ok (.imul, 1) := by decide +kernel
theorem dX0_withinByOne_15 : decode cX0_withinByOne 15 = .ok (.isub, 1) := by decide +kernel
theorem dX0_withinByOne_16 : decode cX0_withinByOne 16 = .ok (.iload_n 3, 1) := by decide +kernel
theorem dX0_withinByOne_17 : decode cX0_withinByOne 17 = .ok (.iload 4, 2) := by decide +kernel
theorem dX0_withinByOne_19 : decode cX0_withinByOne 19 = .ok (.isub, 1) := by decide +kernel
theorem dX0_withinByOne_20 : decode cX0_withinByOne 20 = .ok (.invokevirtual 26, 3) := by decide +kernel
theorem dX0_withinByOne_23 : decode cX0_withinByOne 23 = .ok (.ifCond .eq 5, 3) := by decide +kernel
theorem dX0_withinByOne_26 : decode cX0_withinByOne 26 = .ok (.iconst 1, 1) := by decide +kernel
theorem dX0_withinByOne_27 : decode cX0_withinByOne 27 = .ok (.ireturn, 1) := by decide +kernel
theorem dX0_withinByOne_28 : decode cX0_withinByOne 28 = .ok (.iinc 4 1, 3) := by decide +kernel
theorem dX0_withinByOne_31 : decode cX0_withinByOne 31 = .ok (.goto (-28), 3) := by decide +kernel
theorem dX0_withinByOne_34 : decode cX0_withinByOne 34 = .ok (.iconst 0, 1) := by decide +kernel
theorem dX0_withinByOne_35 : decode cX0_withinByOne 35 = .ok (.ireturn, 1) := by decide +kernel
theorem dX0_withinBy_0 : decode cX0_withinBy 0 = .ok (.aload_n 0, 1) := by decide +kernel
theorem dX0_withinBy_1 : decode cX0_withinBy 1 = .ok (.aload_n 1, 1) := by decide +kernel
theorem dX0_withinBy_2 : decode cX0_withinBy 2 = .ok (.iload_n 2, 1) := by decide +kernel
theorem dX0_withinBy_3 : decode cX0_withinBy 3 = .ok (.aload_n 1, 1) := by decide +kernel
theorem dX0_withinBy_4 : decode cX0_withinBy 4 = .ok (.arraylength, 1) := by decide +kernel
theorem dX0_withinBy_5 : decode cX0_withinBy 5 = .ok (.invokestatic 16, 3) := by decide +kernel
theorem dX0_withinBy_8 : decode cX0_withinBy 8 = .ok (.iload_n 3, 1) := by decide +kernel
theorem dX0_withinBy_9 : decode cX0_withinBy 9 = .ok (.iload 4, 2) := by decide +kernel
theorem dX0_withinBy_11 : decode cX0_withinBy 11 = .ok (.invokestatic 30, 3) := by decide +kernel
theorem dX0_withinBy_14 : decode cX0_withinBy 14 = .ok (.ireturn, 1) := by decide +kernel
theorem dX0_isReached_0 : decode cX0_isReached 0 = .ok (.iload_n 2, 1) := by decide +kernel
theorem dX0_isReached_1 : decode cX0_isReached 1 = .ok (.ifCond .le 13, 3) := by decide +kernel
theorem dX0_isReached_4 : decode cX0_isReached 4 = .ok (.iload_n 2, 1) := by decide +kernel
theorem dX0_isReached_5 : decode cX0_isReached 5 = .ok (.aload_n 1, 1) := by decide +kernel
theorem dX0_isReached_6 : decode cX0_isReached 6 = .ok (.arraylength, 1) := by decide +kernel
theorem dX0_isReached_7 : decode cX0_isReached 7 = .ok (.if_icmp .gt 7, 3) := by decide +kernel
theorem dX0_isReached_10 : decode cX0_isReached 10 = .ok (.iload_n 3, 1) := by decide +kernel
theorem dX0_isReached_11 : decode cX0_isReached 11 = .ok (.ifCond .ge 11, 3) := by decide +kernel
theorem dX0_isReached_14 : decode cX0_isReached 14 = .ok (.aload_n 0, 1) := by decide +kernel
theorem dX0_isReached_15 : decode cX0_isReached 15 = .ok (.iload_n 3, 1) := by decide +kernel
theorem dX0_isReached_16 : decode cX0_isReached 16 = .ok (.iload 4, 2) := by decide +kernel
theorem dX0_isReached_18 : decode cX0_isReached 18 = .ok (.invokevirtual 26, 3) := by decide +kernel
theorem dX0_isReached_21 : decode cX0_isReached 21 = .ok (.ireturn, 1) := by decide +kernel
theorem dX0_isReached_22 : decode cX0_isReached 22 = .ok (.iconst 0, 1) := by decide +kernel
theorem dX0_isReached_23 : decode cX0_isReached 23 = .ok (.istore 5, 2) := by decide +kernel
theorem dX0_isReached_25 : decode cX0_isReached 25 = .ok (.iload 5, 2) := by decide +kernel
theorem dX0_isReached_27 : decode cX0_isReached 27 = .ok (.iload 4, 2) := by decide +kernel
theorem dX0_isReached_29 : decode cX0_isReached 29 = .ok (.if_icmp .gt 37, 3) := by decide +kernel
theorem dX0_isReached_32 : decode cX0_isReached 32 = .ok (.aload_n 0, 1) := by decide +kernel
theorem dX0_isReached_33 : decode cX0_isReached 33 = .ok (.aload_n 1, 1) := by decide +kernel
theorem dX0_isReached_34 : decode cX0_isReached 34 = .ok (.iload_n 2, 1) := by decide +kernel
theorem dX0_isReached_35 : decode cX0_isReached 35 = .ok (.iconst 1, 1) := by decide +kernel
theorem dX0_isReached_36 : decode cX0_isReached 36 = .ok (.isub, 1) := by decide +kernel
theorem dX0_isReached_37 : decode cX0_isReached 37 = .ok (.iload_n 3, 1) := by decide +kernel
theorem dX0_isReached_38 : decode cX0_isReached 38 = .ok (.iload 5, 2) := by decide +kernel
theorem dX0_isReached_40 : decode cX0_isReached 40 = .ok (.aload_n 1, 1) := by decide +kernel
theorem dX0_isReached_41 : decode cX0_isReached 41 = .ok (.iload_n 2, 1) := by decide +kernel
theorem dX0_isReached_42 : decode cX0_isReached 42 = .ok (.iconst 1, 1) := by decide +kernel
theorem dX0_isReached_43 : decode cX0_isReached 43 = .ok (.isub, 1) := by decide +kernel
theorem dX0_isReached_44 : decode cX0_isReached 44 = .ok (.iaload, 1) := by decide +kernel
theorem dX0_isReached_45 : decode cX0_isReached 45 = .ok (.imul, 1) := by decide +kernel
theorem dX0_isReached_46 : decode cX0_isReached 46 = .ok (.isub, 1) := by decide +kernel
theorem dX0_isReached_47 : decode cX0_isReached 47 = .ok (.iload 4, 2) := by decide +kernel
theorem dX0_isReached_49 : decode cX0_isReached 49 = .ok (.iload 5, 2) := by decide +kernel
theorem dX0_isReached_51 : decode cX0_isReached 51 = .ok (.isub, 1) := by decide +kernel
theorem dX0_isReached_52 : decode cX0_isReached 52 = .ok (.invokestatic 30, 3) := by decide +kernel
theorem dX0_isReached_55 : decode cX0_isReached 55 = .ok (.ifCond .eq 5, 3) := by decide +kernel
theorem dX0_isReached_58 : decode cX0_isReached 58 = .ok (.iconst 1, 1) := by decide +kernel
theorem dX0_isReached_59 : decode cX0_isReached 59 = .ok (.ireturn, 1) := by decide +kernel
theorem dX0_isReached_60 : decode cX0_isReached 60 = .ok (.iinc 5 1, 3) := by decide +kernel
theorem dX0_isReached_63 : decode cX0_isReached 63 = .ok (.goto (-38), 3) := by decide +kernel
theorem dX0_isReached_66 : decode cX0_isReached 66 = .ok (.iconst 0, 1) := by decide +kernel
theorem dX0_isReached_67 : decode cX0_isReached 67 = .ok (.ireturn, 1) := by decide +kernel
theorem dX1_init_0 : decode cX1_init 0 = .ok (.aload_n 0, 1) := by decide +kernel
theorem dX1_init_1 : decode cX1_init 1 = .ok (.iload_n 1, 1) := by decide +kernel
theorem dX1_init_2 : decode cX1_init 2 = .ok (.iload_n 2, 1) := by decide +kernel
theorem dX1_init_3 : decode cX1_init 3 = .ok (.iload_n 3, 1) := by decide +kernel
theorem dX1_init_4 : decode cX1_init 4 = .ok (.iload 4, 2) := by decide +kernel
theorem dX1_init_6 : decode cX1_init 6 = .ok (.invokespecial 1, 3) := by decide +kernel
theorem dX1_init_9 : decode cX1_init 9 = .ok (.return_, 1) := by decide +kernel
theorem dX1_kind_0 : decode cX1_kind 0 = .ok (.iconst 2, 1) := by decide +kernel
theorem dX1_kind_1 : decode cX1_kind 1 = .ok (.ireturn, 1) := by decide +kernel
theorem dX1_isKnown_0 : decode cX1_isKnown 0 = .ok (.iconst 1, 1) := by decide +kernel
theorem dX1_isKnown_1 : decode cX1_isKnown 1 = .ok (.ireturn, 1) := by decide +kernel
theorem dX1_telling_0 : decode cX1_telling 0 = .ok (.aload_n 1, 1) := by decide +kernel
theorem dX1_telling_1 : decode cX1_telling 1 = .ok (.iconst 3, 1) := by decide +kernel
theorem dX1_telling_2 : decode cX1_telling 2 = .ok (.invokevirtual 7, 3) := by decide +kernel
theorem dX1_telling_5 : decode cX1_telling 5 = .ok (.aload_n 0, 1) := by decide +kernel
theorem dX1_telling_6 : decode cX1_telling 6 = .ok (.aload_n 1, 1) := by decide +kernel
theorem dX1_telling_7 : decode cX1_telling 7 = .ok (.invokespecial 13, 3) := by decide +kernel
theorem dX1_telling_10 : decode cX1_telling 10 = .ok (.istore_n 2, 1) := by decide +kernel
theorem dX1_telling_11 : decode cX1_telling 11 = .ok (.iload_n 2, 1) := by decide +kernel
theorem dX1_telling_12 : decode cX1_telling 12 = .ok (.aload_n 0, 1) := by decide +kernel
theorem dX1_telling_13 : decode cX1_telling 13 = .ok (.aload_n 1, 1) := by decide +kernel
theorem dX1_telling_14 : decode cX1_telling 14 = .ok (.invokevirtual 17, 3) := by decide +kernel
theorem dX1_telling_17 : decode cX1_telling 17 = .ok (.iadd, 1) := by decide +kernel
theorem dX1_telling_18 : decode cX1_telling 18 = .ok (.ireturn, 1) := by decide +kernel
theorem dX1_mourning_0 : decode cX1_mourning 0 = .ok (.aload_n 1, 1) := by decide +kernel
theorem dX1_mourning_1 : decode cX1_mourning 1 = .ok (.iconst 5, 1) := by decide +kernel
theorem dX1_mourning_2 : decode cX1_mourning 2 = .ok (.invokevirtual 7, 3) := by decide +kernel
theorem dX1_mourning_5 : decode cX1_mourning 5 = .ok (.bipush 80, 2) := by decide +kernel
theorem dX1_mourning_7 : decode cX1_mourning 7 = .ok (.ireturn, 1) := by decide +kernel
theorem dX2_init_0 : decode cX2_init 0 = .ok (.aload_n 0, 1) := by decide +kernel
theorem dX2_init_1 : decode cX2_init 1 = .ok (.iload_n 1, 1) := by decide +kernel
theorem dX2_init_2 : decode cX2_init 2 = .ok (.iload_n 2, 1) := by decide +kernel
theorem dX2_init_3 : decode cX2_init 3 = .ok (.iload_n 3, 1) := by decide +kernel
theorem dX2_init_4 : decode cX2_init 4 = .ok (.iload 4, 2) := by decide +kernel
theorem dX2_init_6 : decode cX2_init 6 = .ok (.invokespecial 1, 3) := by decide +kernel
theorem dX2_init_9 : decode cX2_init 9 = .ok (.return_, 1) := by decide +kernel
theorem dX2_kind_0 : decode cX2_kind 0 = .ok (.iconst 1, 1) := by decide +kernel
theorem dX2_kind_1 : decode cX2_kind 1 = .ok (.ireturn, 1) := by decide +kernel
theorem dX2_longer_0 : decode cX2_longer 0 = .ok (.bipush 10, 2) := by decide +kernel
theorem dX2_longer_2 : decode cX2_longer 2 = .ok (.ireturn, 1) := by decide +kernel
theorem dX2_telling_0 : decode cX2_telling 0 = .ok (.aload_n 1, 1) := by decide +kernel
theorem dX2_telling_1 : decode cX2_telling 1 = .ok (.iconst 2, 1) := by decide +kernel
theorem dX2_telling_2 : decode cX2_telling 2 = .ok (.invokevirtual 7, 3) := by decide +kernel
theorem dX2_telling_5 : decode cX2_telling 5 = .ok (.aload_n 0, 1) := by decide +kernel
theorem dX2_telling_6 : decode cX2_telling 6 = .ok (.aload_n 1, 1) := by decide +kernel
theorem dX2_telling_7 : decode cX2_telling 7 = .ok (.invokevirtual 13, 3) := by decide +kernel
theorem dX2_telling_10 : decode cX2_telling 10 = .ok (.bipush 100, 2) := by decide +kernel
theorem dX2_telling_12 : decode cX2_telling 12 = .ok (.iadd, 1) := by decide +kernel
theorem dX2_telling_13 : decode cX2_telling 13 = .ok (.ireturn, 1) := by decide +kernel
theorem dX3_init_0 : decode cX3_init 0 = .ok (.aload_n 0, 1) := by decide +kernel
theorem dX3_init_1 : decode cX3_init 1 = .ok (.invokespecial 1, 3) := by decide +kernel
theorem dX3_init_4 : decode cX3_init 4 = .ok (.aload_n 0, 1) := by decide +kernel
theorem dX3_init_5 : decode cX3_init 5 = .ok (.iload_n 1, 1) := by decide +kernel
theorem dX3_init_6 : decode cX3_init 6 = .ok (.putfield 7, 3) := by decide +kernel
theorem dX3_init_9 : decode cX3_init 9 = .ok (.aload_n 0, 1) := by decide +kernel
theorem dX3_init_10 : decode cX3_init 10 = .ok (.iload_n 2, 1) := by decide +kernel
theorem dX3_init_11 : decode cX3_init 11 = .ok (.putfield 13, 3) := by decide +kernel
theorem dX3_init_14 : decode cX3_init 14 = .ok (.aload_n 0, 1) := by decide +kernel
theorem dX3_init_15 : decode cX3_init 15 = .ok (.iload_n 3, 1) := by decide +kernel
theorem dX3_init_16 : decode cX3_init 16 = .ok (.putfield 16, 3) := by decide +kernel
theorem dX3_init_19 : decode cX3_init 19 = .ok (.aload_n 0, 1) := by decide +kernel
theorem dX3_init_20 : decode cX3_init 20 = .ok (.iload 4, 2) := by decide +kernel
theorem dX3_init_22 : decode cX3_init 22 = .ok (.putfield 19, 3) := by decide +kernel
theorem dX3_init_25 : decode cX3_init 25 = .ok (.return_, 1) := by decide +kernel
theorem dX3_kind_0 : decode cX3_kind 0 = .ok (.iconst 0, 1) := by decide +kernel
theorem dX3_kind_1 : decode cX3_kind 1 = .ok (.ireturn, 1) := by decide +kernel
theorem dX3_number_0 : decode cX3_number 0 = .ok (.aload_n 0, 1) := by decide +kernel
theorem dX3_number_1 : decode cX3_number 1 = .ok (.getfield 13, 3) := by decide +kernel
theorem dX3_number_4 : decode cX3_number 4 = .ok (.ireturn, 1) := by decide +kernel
theorem dX3_part_0 : decode cX3_part 0 = .ok (.iload_n 1, 1) := by decide +kernel
theorem dX3_part_1 : decode cX3_part 1 = .ok (.tableswitch 51 0 3 #[31, 36, 41, 46], 31) := by decide +kernel
theorem dX3_part_32 : decode cX3_part 32 = .ok (.aload_n 0, 1) := by decide +kernel
theorem dX3_part_33 : decode cX3_part 33 = .ok (.invokevirtual 22, 3) := by decide +kernel
theorem dX3_part_36 : decode cX3_part 36 = .ok (.ireturn, 1) := by decide +kernel
theorem dX3_part_37 : decode cX3_part 37 = .ok (.aload_n 0, 1) := by decide +kernel
theorem dX3_part_38 : decode cX3_part 38 = .ok (.getfield 7, 3) := by decide +kernel
theorem dX3_part_41 : decode cX3_part 41 = .ok (.ireturn, 1) := by decide +kernel
theorem dX3_part_42 : decode cX3_part 42 = .ok (.aload_n 0, 1) := by decide +kernel
theorem dX3_part_43 : decode cX3_part 43 = .ok (.getfield 13, 3) := by decide +kernel
theorem dX3_part_46 : decode cX3_part 46 = .ok (.ireturn, 1) := by decide +kernel
theorem dX3_part_47 : decode cX3_part 47 = .ok (.aload_n 0, 1) := by decide +kernel
theorem dX3_part_48 : decode cX3_part 48 = .ok (.getfield 16, 3) := by decide +kernel
theorem dX3_part_51 : decode cX3_part 51 = .ok (.ireturn, 1) := by decide +kernel
theorem dX3_part_52 : decode cX3_part 52 = .ok (.aload_n 0, 1) := by decide +kernel
theorem dX3_part_53 : decode cX3_part 53 = .ok (.getfield 19, 3) := by decide +kernel
theorem dX3_part_56 : decode cX3_part 56 = .ok (.ireturn, 1) := by decide +kernel
theorem dX3_isHeard_0 : decode cX3_isHeard 0 = .ok (.aload_n 0, 1) := by decide +kernel
theorem dX3_isHeard_1 : decode cX3_isHeard 1 = .ok (.iload_n 1, 1) := by decide +kernel
theorem dX3_isHeard_2 : decode cX3_isHeard 2 = .ok (.invokevirtual 26, 3) := by decide +kernel
theorem dX3_isHeard_5 : decode cX3_isHeard 5 = .ok (.ifCond .eq 28, 3) := by decide +kernel
theorem dX3_isHeard_8 : decode cX3_isHeard 8 = .ok (.iload_n 2, 1) := by decide +kernel
theorem dX3_isHeard_9 : decode cX3_isHeard 9 = .ok (.aload_n 0, 1) := by decide +kernel
theorem dX3_isHeard_10 : decode cX3_isHeard 10 = .ok (.getfield 16, 3) := by decide +kernel
theorem dX3_isHeard_13 : decode cX3_isHeard 13 = .ok (.if_icmp .lt 20, 3) := by decide +kernel
theorem dX3_isHeard_16 : decode cX3_isHeard 16 = .ok (.iload_n 2, 1) := by decide +kernel
theorem dX3_isHeard_17 : decode cX3_isHeard 17 = .ok (.aload_n 0, 1) := by decide +kernel
theorem dX3_isHeard_18 : decode cX3_isHeard 18 = .ok (.getfield 19, 3) := by decide +kernel
theorem dX3_isHeard_21 : decode cX3_isHeard 21 = .ok (.aload_n 0, 1) := by decide +kernel
theorem dX3_isHeard_22 : decode cX3_isHeard 22 = .ok (.invokevirtual 30, 3) := by decide +kernel
theorem dX3_isHeard_25 : decode cX3_isHeard 25 = .ok (.iadd, 1) := by decide +kernel
theorem dX3_isHeard_26 : decode cX3_isHeard 26 = .ok (.if_icmp .ge 7, 3) := by decide +kernel
theorem dX3_isHeard_29 : decode cX3_isHeard 29 = .ok (.iconst 1, 1) := by decide +kernel
theorem dX3_isHeard_30 : decode cX3_isHeard 30 = .ok (.goto 4, 3) := by decide +kernel
theorem dX3_isHeard_33 : decode cX3_isHeard 33 = .ok (.iconst 0, 1) := by decide +kernel
theorem dX3_isHeard_34 : decode cX3_isHeard 34 = .ok (.ireturn, 1) := by decide +kernel
theorem dX3_isKnown_0 : decode cX3_isKnown 0 = .ok (.iload_n 1, 1) := by decide +kernel
theorem dX3_isKnown_1 : decode cX3_isKnown 1 = .ok (.aload_n 0, 1) := by decide +kernel
theorem dX3_isKnown_2 : decode cX3_isKnown 2 = .ok (.getfield 7, 3) := by decide +kernel
theorem dX3_isKnown_5 : decode cX3_isKnown 5 = .ok (.if_icmp .ne 7, 3) := by decide +kernel
theorem dX3_isKnown_8 : decode cX3_isKnown 8 = .ok (.iconst 1, 1) := by decide +kernel
theorem dX3_isKnown_9 : decode cX3_isKnown 9 = .ok (.goto 4, 3) := by decide +kernel
theorem dX3_isKnown_12 : decode cX3_isKnown 12 = .ok (.iconst 0, 1) := by decide +kernel
theorem dX3_isKnown_13 : decode cX3_isKnown 13 = .ok (.ireturn, 1) := by decide +kernel
theorem dX3_longer_0 : decode cX3_longer 0 = .ok (.iconst 0, 1) := by decide +kernel
theorem dX3_longer_1 : decode cX3_longer 1 = .ok (.ireturn, 1) := by decide +kernel
theorem dX3_telling_0 : decode cX3_telling 0 = .ok (.aload_n 0, 1) := by decide +kernel
theorem dX3_telling_1 : decode cX3_telling 1 = .ok (.aload_n 1, 1) := by decide +kernel
theorem dX3_telling_2 : decode cX3_telling 2 = .ok (.invokevirtual 33, 3) := by decide +kernel
theorem dX3_telling_5 : decode cX3_telling 5 = .ok (.ireturn, 1) := by decide +kernel
theorem dX3_namedTelling_0 : decode cX3_namedTelling 0 = .ok (.aload_n 1, 1) := by decide +kernel
theorem dX3_namedTelling_1 : decode cX3_namedTelling 1 = .ok (.iconst 1, 1) := by decide +kernel
theorem dX3_namedTelling_2 : decode cX3_namedTelling 2 = .ok (.invokevirtual 37, 3) := by decide +kernel
theorem dX3_namedTelling_5 : decode cX3_namedTelling 5 = .ok (.aload_n 0, 1) := by decide +kernel
theorem dX3_namedTelling_6 : decode cX3_namedTelling 6 = .ok (.getfield 13, 3) := by decide +kernel
theorem dX3_namedTelling_9 : decode cX3_namedTelling 9 = .ok (.ireturn, 1) := by decide +kernel
theorem dX3_mourning_0 : decode cX3_mourning 0 = .ok (.aload_n 1, 1) := by decide +kernel
theorem dX3_mourning_1 : decode cX3_mourning 1 = .ok (.iconst 4, 1) := by decide +kernel
theorem dX3_mourning_2 : decode cX3_mourning 2 = .ok (.invokevirtual 37, 3) := by decide +kernel
theorem dX3_mourning_5 : decode cX3_mourning 5 = .ok (.iload_n 2, 1) := by decide +kernel
theorem dX3_mourning_6 : decode cX3_mourning 6 = .ok (.ireturn, 1) := by decide +kernel
theorem dX4_init_0 : decode cX4_init 0 = .ok (.aload_n 0, 1) := by decide +kernel
theorem dX4_init_1 : decode cX4_init 1 = .ok (.invokespecial 3, 3) := by decide +kernel
theorem dX4_init_4 : decode cX4_init 4 = .ok (.aload_n 0, 1) := by decide +kernel
theorem dX4_init_5 : decode cX4_init 5 = .ok (.bipush 10, 2) := by decide +kernel
theorem dX4_init_7 : decode cX4_init 7 = .ok (.anewarray 9, 3) := by decide +kernel
theorem dX4_init_10 : decode cX4_init 10 = .ok (.putfield 11, 3) := by decide +kernel
theorem dX4_init_13 : decode cX4_init 13 = .ok (.aload_n 0, 1) := by decide +kernel
theorem dX4_init_14 : decode cX4_init 14 = .ok (.iconst 0, 1) := by decide +kernel
theorem dX4_init_15 : decode cX4_init 15 = .ok (.putfield 17, 3) := by decide +kernel
theorem dX4_init_18 : decode cX4_init 18 = .ok (.return_, 1) := by decide +kernel
theorem dX4_size_0 : decode cX4_size 0 = .ok (.aload_n 0, 1) := by decide +kernel
theorem dX4_size_1 : decode cX4_size 1 = .ok (.getfield 17, 3) := by decide +kernel
theorem dX4_size_4 : decode cX4_size 4 = .ok (.ireturn, 1) := by decide +kernel
theorem dX4_one_0 : decode cX4_one 0 = .ok (.iload_n 1, 1) := by decide +kernel
theorem dX4_one_1 : decode cX4_one 1 = .ok (.ifCond .lt 29, 3) := by decide +kernel
theorem dX4_one_4 : decode cX4_one 4 = .ok (.iload_n 1, 1) := by decide +kernel
theorem dX4_one_5 : decode cX4_one 5 = .ok (.aload_n 0, 1) := by decide +kernel
theorem dX4_one_6 : decode cX4_one 6 = .ok (.getfield 17, 3) := by decide +kernel
theorem dX4_one_9 : decode cX4_one 9 = .ok (.if_icmp .ge 21, 3) := by decide +kernel
theorem dX4_one_12 : decode cX4_one 12 = .ok (.iload_n 1, 1) := by decide +kernel
theorem dX4_one_13 : decode cX4_one 13 = .ok (.aload_n 0, 1) := by decide +kernel
theorem dX4_one_14 : decode cX4_one 14 = .ok (.getfield 11, 3) := by decide +kernel
theorem dX4_one_17 : decode cX4_one 17 = .ok (.arraylength, 1) := by decide +kernel
theorem dX4_one_18 : decode cX4_one 18 = .ok (.if_icmp .ge 12, 3) := by decide +kernel
theorem dX4_one_21 : decode cX4_one 21 = .ok (.aload_n 0, 1) := by decide +kernel
theorem dX4_one_22 : decode cX4_one 22 = .ok (.getfield 11, 3) := by decide +kernel
theorem dX4_one_25 : decode cX4_one 25 = .ok (.iload_n 1, 1) := by decide +kernel
theorem dX4_one_26 : decode cX4_one 26 = .ok (.aaload, 1) := by decide +kernel
theorem dX4_one_27 : decode cX4_one 27 = .ok (.goto 4, 3) := by decide +kernel
theorem dX4_one_30 : decode cX4_one 30 = .ok (.aconst_null, 1) := by decide +kernel
theorem dX4_one_31 : decode cX4_one 31 = .ok (.areturn, 1) := by decide +kernel
theorem dX4_takeFrom_0 : decode cX4_takeFrom 0 = .ok (.aload_n 0, 1) := by decide +kernel
theorem dX4_takeFrom_1 : decode cX4_takeFrom 1 = .ok (.aload_n 1, 1) := by decide +kernel
theorem dX4_takeFrom_2 : decode cX4_takeFrom 2 = .ok (.invokevirtual 21, 3) := by decide +kernel
theorem dX4_takeFrom_5 : decode cX4_takeFrom 5 = .ok (.aload_n 0, 1) := by decide +kernel
theorem dX4_takeFrom_6 : decode cX4_takeFrom 6 = .ok (.getfield 11, 3) := by decide +kernel
theorem dX4_takeFrom_9 : decode cX4_takeFrom 9 = .ok (.arraylength, 1) := by decide +kernel
theorem dX4_takeFrom_10 : decode cX4_takeFrom 10 = .ok (.invokestatic 27, 3) := by decide +kernel
theorem dX4_takeFrom_13 : decode cX4_takeFrom 13 = .ok (.putfield 17, 3) := by decide +kernel
theorem dX4_takeFrom_16 : decode cX4_takeFrom 16 = .ok (.iconst 0, 1) := by decide +kernel
theorem dX4_takeFrom_17 : decode cX4_takeFrom 17 = .ok (.istore_n 2, 1) := by decide +kernel
theorem dX4_takeFrom_18 : decode cX4_takeFrom 18 = .ok (.iload_n 2, 1) := by decide +kernel
theorem dX4_takeFrom_19 : decode cX4_takeFrom 19 = .ok (.aload_n 0, 1) := by decide +kernel
theorem dX4_takeFrom_20 : decode cX4_takeFrom 20 = .ok (.getfield 11, 3) := by decide +kernel
theorem dX4_takeFrom_23 : decode cX4_takeFrom 23 = .ok (.arraylength, 1) := by decide +kernel
theorem dX4_takeFrom_24 : decode cX4_takeFrom 24 = .ok (.if_icmp .ge 32, 3) := by decide +kernel
theorem dX4_takeFrom_27 : decode cX4_takeFrom 27 = .ok (.aload_n 0, 1) := by decide +kernel
theorem dX4_takeFrom_28 : decode cX4_takeFrom 28 = .ok (.getfield 11, 3) := by decide +kernel
theorem dX4_takeFrom_31 : decode cX4_takeFrom 31 = .ok (.iload_n 2, 1) := by decide +kernel
theorem dX4_takeFrom_32 : decode cX4_takeFrom 32 = .ok (.iload_n 2, 1) := by decide +kernel
theorem dX4_takeFrom_33 : decode cX4_takeFrom 33 = .ok (.aload_n 0, 1) := by decide +kernel
theorem dX4_takeFrom_34 : decode cX4_takeFrom 34 = .ok (.getfield 17, 3) := by decide +kernel
theorem dX4_takeFrom_37 : decode cX4_takeFrom 37 = .ok (.if_icmp .ge 11, 3) := by decide +kernel
theorem dX4_takeFrom_40 : decode cX4_takeFrom 40 = .ok (.aload_n 1, 1) := by decide +kernel
theorem dX4_takeFrom_41 : decode cX4_takeFrom 41 = .ok (.iload_n 2, 1) := by decide +kernel
theorem dX4_takeFrom_42 : decode cX4_takeFrom 42 = .ok (.invokevirtual 33, 3) := by decide +kernel
theorem dX4_takeFrom_45 : decode cX4_takeFrom 45 = .ok (.goto 4, 3) := by decide +kernel
theorem dX4_takeFrom_48 : decode cX4_takeFrom 48 = .ok (.aconst_null, 1) := by decide +kernel
theorem dX4_takeFrom_49 : decode cX4_takeFrom 49 = .ok (.aastore, 1) := by decide +kernel
theorem dX4_takeFrom_50 : decode cX4_takeFrom 50 = .ok (.iinc 2 1, 3) := by decide +kernel
theorem dX4_takeFrom_53 : decode cX4_takeFrom 53 = .ok (.goto (-35), 3) := by decide +kernel
theorem dX4_takeFrom_56 : decode cX4_takeFrom 56 = .ok (.return_, 1) := by decide +kernel
theorem dX4_bearer_0 : decode cX4_bearer 0 = .ok (.iconst 0, 1) := by decide +kernel
theorem dX4_bearer_1 : decode cX4_bearer 1 = .ok (.istore 4, 2) := by decide +kernel
theorem dX4_bearer_3 : decode cX4_bearer 3 = .ok (.iload 4, 2) := by decide +kernel
theorem dX4_bearer_5 : decode cX4_bearer 5 = .ok (.aload_n 0, 1) := by decide +kernel
theorem dX4_bearer_6 : decode cX4_bearer 6 = .ok (.getfield 17, 3) := by decide +kernel
theorem dX4_bearer_9 : decode cX4_bearer 9 = .ok (.if_icmp .ge 44, 3) := by decide +kernel
theorem dX4_bearer_12 : decode cX4_bearer 12 = .ok (.aload_n 0, 1) := by decide +kernel
theorem dX4_bearer_13 : decode cX4_bearer 13 = .ok (.iload 4, 2) := by decide +kernel
theorem dX4_bearer_15 : decode cX4_bearer 15 = .ok (.invokevirtual 37, 3) := by decide +kernel
theorem dX4_bearer_18 : decode cX4_bearer 18 = .ok (.astore 5, 2) := by decide +kernel
theorem dX4_bearer_20 : decode cX4_bearer 20 = .ok (.aload 5, 2) := by decide +kernel
theorem dX4_bearer_22 : decode cX4_bearer 22 = .ok (.ifnull 25, 3) := by decide +kernel
theorem dX4_bearer_25 : decode cX4_bearer 25 = .ok (.aload 5, 2) := by decide +kernel
theorem dX4_bearer_27 : decode cX4_bearer 27 = .ok (.invokevirtual 38, 3) := by decide +kernel
theorem dX4_bearer_30 : decode cX4_bearer 30 = .ok (.iload_n 1, 1) := by decide +kernel
theorem dX4_bearer_31 : decode cX4_bearer 31 = .ok (.if_icmp .ne 16, 3) := by decide +kernel
theorem dX4_bearer_34 : decode cX4_bearer 34 = .ok (.aload 5, 2) := by decide +kernel
theorem dX4_bearer_36 : decode cX4_bearer 36 = .ok (.iload_n 2, 1) := by decide +kernel
theorem dX4_bearer_37 : decode cX4_bearer 37 = .ok (.iload_n 3, 1) := by decide +kernel
theorem dX4_bearer_38 : decode cX4_bearer 38 = .ok (.invokevirtual 41, 3) := by decide +kernel
theorem dX4_bearer_41 : decode cX4_bearer 41 = .ok (.ifCond .eq 6, 3) := by decide +kernel
theorem dX4_bearer_44 : decode cX4_bearer 44 = .ok (.iload 4, 2) := by decide +kernel
theorem dX4_bearer_46 : decode cX4_bearer 46 = .ok (.ireturn, 1) := by decide +kernel
theorem dX4_bearer_47 : decode cX4_bearer 47 = .ok (.iinc 4 1, 3) := by decide +kernel
theorem dX4_bearer_50 : decode cX4_bearer 50 = .ok (.goto (-47), 3) := by decide +kernel
theorem dX4_bearer_53 : decode cX4_bearer 53 = .ok (.bipush (-9), 2) := by decide +kernel
theorem dX4_bearer_55 : decode cX4_bearer 55 = .ok (.ireturn, 1) := by decide +kernel
theorem dX4_teach_0 : decode cX4_teach 0 = .ok (.aload_n 1, 1) := by decide +kernel
theorem dX4_teach_1 : decode cX4_teach 1 = .ok (.invokevirtual 45, 3) := by decide +kernel
theorem dX4_teach_4 : decode cX4_teach 4 = .ok (.iconst 0, 1) := by decide +kernel
theorem dX4_teach_5 : decode cX4_teach 5 = .ok (.istore 5, 2) := by decide +kernel
theorem dX4_teach_7 : decode cX4_teach 7 = .ok (.iload 5, 2) := by decide +kernel
theorem dX4_teach_9 : decode cX4_teach 9 = .ok (.aload_n 0, 1) := by decide +kernel
theorem dX4_teach_10 : decode cX4_teach 10 = .ok (.getfield 17, 3) := by decide +kernel
theorem dX4_teach_13 : decode cX4_teach 13 = .ok (.if_icmp .ge 48, 3) := by decide +kernel
theorem dX4_teach_16 : decode cX4_teach 16 = .ok (.aload_n 0, 1) := by decide +kernel
theorem dX4_teach_17 : decode cX4_teach 17 = .ok (.iload 5, 2) := by decide +kernel
theorem dX4_teach_19 : decode cX4_teach 19 = .ok (.invokevirtual 37, 3) := by decide +kernel
theorem dX4_teach_22 : decode cX4_teach 22 = .ok (.astore 6, 2) := by decide +kernel
theorem dX4_teach_24 : decode cX4_teach 24 = .ok (.aload 6, 2) := by decide +kernel
theorem dX4_teach_26 : decode cX4_teach 26 = .ok (.ifnull 29, 3) := by decide +kernel
theorem dX4_teach_29 : decode cX4_teach 29 = .ok (.iload 5, 2) := by decide +kernel
theorem dX4_teach_31 : decode cX4_teach 31 = .ok (.iload 4, 2) := by decide +kernel
theorem dX4_teach_33 : decode cX4_teach 33 = .ok (.if_icmp .eq 22, 3) := by decide +kernel
theorem dX4_teach_36 : decode cX4_teach 36 = .ok (.aload 6, 2) := by decide +kernel
theorem dX4_teach_38 : decode cX4_teach 38 = .ok (.iload_n 2, 1) := by decide +kernel
theorem dX4_teach_39 : decode cX4_teach 39 = .ok (.iload_n 3, 1) := by decide +kernel
theorem dX4_teach_40 : decode cX4_teach 40 = .ok (.invokevirtual 41, 3) := by decide +kernel
theorem dX4_teach_43 : decode cX4_teach 43 = .ok (.ifCond .eq 12, 3) := by decide +kernel
theorem dX4_teach_46 : decode cX4_teach 46 = .ok (.aload_n 1, 1) := by decide +kernel
theorem dX4_teach_47 : decode cX4_teach 47 = .ok (.aload 6, 2) := by decide +kernel
theorem dX4_teach_49 : decode cX4_teach 49 = .ok (.invokevirtual 38, 3) := by decide +kernel
theorem dX4_teach_52 : decode cX4_teach 52 = .ok (.invokevirtual 50, 3) := by decide +kernel
theorem dX4_teach_55 : decode cX4_teach 55 = .ok (.iinc 5 1, 3) := by decide +kernel
theorem dX4_teach_58 : decode cX4_teach 58 = .ok (.goto (-51), 3) := by decide +kernel
theorem dX4_teach_61 : decode cX4_teach 61 = .ok (.return_, 1) := by decide +kernel
theorem dX4_greatestStep_0 : decode cX4_greatestStep 0 = .ok (.iconst 0, 1) := by decide +kernel
theorem dX4_greatestStep_1 : decode cX4_greatestStep 1 = .ok (.istore 5, 2) := by decide +kernel
theorem dX4_greatestStep_3 : decode cX4_greatestStep 3 = .ok (.iconst 0, 1) := by decide +kernel
theorem dX4_greatestStep_4 : decode cX4_greatestStep 4 = .ok (.istore 6, 2) := by decide +kernel
theorem dX4_greatestStep_6 : decode cX4_greatestStep 6 = .ok (.iload 6, 2) := by decide +kernel
theorem dX4_greatestStep_8 : decode cX4_greatestStep 8 = .ok (.aload_n 0, 1) := by decide +kernel
theorem dX4_greatestStep_9 : decode cX4_greatestStep 9 = .ok (.getfield 17, 3) := by decide +kernel
theorem dX4_greatestStep_12 : decode cX4_greatestStep 12 = .ok (.if_icmp .ge 71, 3) := by decide +kernel
theorem dX4_greatestStep_15 : decode cX4_greatestStep 15 = .ok (.aload_n 0, 1) := by decide +kernel
theorem dX4_greatestStep_16 : decode cX4_greatestStep 16 = .ok (.iload 6, 2) := by decide +kernel
theorem dX4_greatestStep_18 : decode cX4_greatestStep 18 = .ok (.invokevirtual 37, 3) := by decide +kernel
theorem dX4_greatestStep_21 : decode cX4_greatestStep 21 = .ok (.astore 7, 2) := by decide +kernel
theorem dX4_greatestStep_23 : decode cX4_greatestStep 23 = .ok (.aload 7, 2) := by decide +kernel
theorem dX4_greatestStep_25 : decode cX4_greatestStep 25 = .ok (.ifnull 52, 3) := by decide +kernel
theorem dX4_greatestStep_28 : decode cX4_greatestStep 28 = .ok (.aload 7, 2) := by decide +kernel
theorem dX4_greatestStep_30 : decode cX4_greatestStep 30 = .ok (.invokevirtual 38, 3) := by decide +kernel
theorem dX4_greatestStep_33 : decode cX4_greatestStep 33 = .ok (.iload 5, 2) := by decide +kernel
theorem dX4_greatestStep_35 : decode cX4_greatestStep 35 = .ok (.if_icmp .le 42, 3) := by decide +kernel
theorem dX4_greatestStep_38 : decode cX4_greatestStep 38 = .ok (.aload 7, 2) := by decide +kernel
theorem dX4_greatestStep_40 : decode cX4_greatestStep 40 = .ok (.iload_n 3, 1) := by decide +kernel
theorem dX4_greatestStep_41 : decode cX4_greatestStep 41 = .ok (.iload 4, 2) := by decide +kernel
theorem dX4_greatestStep_43 : decode cX4_greatestStep 43 = .ok (.invokevirtual 41, 3) := by decide +kernel
theorem dX4_greatestStep_46 : decode cX4_greatestStep 46 = .ok (.ifCond .eq 31, 3) := by decide +kernel
theorem dX4_greatestStep_49 : decode cX4_greatestStep 49 = .ok (.aload_n 1, 1) := by decide +kernel
theorem dX4_greatestStep_50 : decode cX4_greatestStep 50 = .ok (.iload_n 2, 1) := by decide +kernel
theorem dX4_greatestStep_51 : decode cX4_greatestStep 51 = .ok (.aload 7, 2) := by decide +kernel
theorem dX4_greatestStep_53 : decode cX4_greatestStep 53 = .ok (.invokevirtual 38, 3) := by decide +kernel
theorem dX4_greatestStep_56 : decode cX4_greatestStep 56 = .ok (.isub, 1) := by decide +kernel
theorem dX4_greatestStep_57 : decode cX4_greatestStep 57 = .ok (.invokevirtual 54, 3) := by decide +kernel
theorem dX4_greatestStep_60 : decode cX4_greatestStep 60 = .ok (.aload_n 1, 1) := by decide +kernel
theorem dX4_greatestStep_61 : decode cX4_greatestStep 61 = .ok (.iload_n 2, 1) := by decide +kernel
theorem dX4_greatestStep_62 : decode cX4_greatestStep 62 = .ok (.invokevirtual 54, 3) := by decide +kernel
theorem dX4_greatestStep_65 : decode cX4_greatestStep 65 = .ok (.iconst 1, 1) := by decide +kernel
theorem dX4_greatestStep_66 : decode cX4_greatestStep 66 = .ok (.isub, 1) := by decide +kernel
theorem dX4_greatestStep_67 : decode cX4_greatestStep 67 = .ok (.if_icmp .ne 10, 3) := by decide +kernel
theorem dX4_greatestStep_70 : decode cX4_greatestStep 70 = .ok (.aload 7, 2) := by decide +kernel
theorem dX4_greatestStep_72 : decode cX4_greatestStep 72 = .ok (.invokevirtual 38, 3) := by decide +kernel
theorem dX4_greatestStep_75 : decode cX4_greatestStep 75 = .ok (.istore 5, 2) := by decide +kernel
theorem dX4_greatestStep_77 : decode cX4_greatestStep 77 = .ok (.iinc 6 1, 3) := by decide +kernel
theorem dX4_greatestStep_80 : decode cX4_greatestStep 80 = .ok (.goto (-74), 3) := by decide +kernel
theorem dX4_greatestStep_83 : decode cX4_greatestStep 83 = .ok (.iload 5, 2) := by decide +kernel
theorem dX4_greatestStep_85 : decode cX4_greatestStep 85 = .ok (.ireturn, 1) := by decide +kernel
theorem dX5_init_0 : decode cX5_init 0 = .ok (.aload_n 0, 1) := by decide +kernel
theorem dX5_init_1 : decode cX5_init 1 = .ok (.invokespecial 3, 3) := by decide +kernel
theorem dX5_init_4 : decode cX5_init 4 = .ok (.aload_n 0, 1) := by decide +kernel
theorem dX5_init_5 : decode cX5_init 5 = .ok (.iconst 3, 1) := by decide +kernel
theorem dX5_init_6 : decode cX5_init 6 = .ok (.newarray .int, 2) := by decide +kernel
theorem dX5_init_8 : decode cX5_init 8 = .ok (.putfield 9, 3) := by decide +kernel
theorem dX5_init_11 : decode cX5_init 11 = .ok (.aload_n 0, 1) := by decide +kernel
theorem dX5_init_12 : decode cX5_init 12 = .ok (.iconst 3, 1) := by decide +kernel
theorem dX5_init_13 : decode cX5_init 13 = .ok (.newarray .int, 2) := by decide +kernel
theorem dX5_init_15 : decode cX5_init 15 = .ok (.putfield 15, 3) := by decide +kernel
theorem dX5_init_18 : decode cX5_init 18 = .ok (.return_, 1) := by decide +kernel
theorem dX5_search_0 : decode cX5_search 0 = .ok (.iconst 0, 1) := by decide +kernel
theorem dX5_search_1 : decode cX5_search 1 = .ok (.istore 5, 2) := by decide +kernel
theorem dX5_search_3 : decode cX5_search 3 = .ok (.iload 5, 2) := by decide +kernel
theorem dX5_search_5 : decode cX5_search 5 = .ok (.iconst 3, 1) := by decide +kernel
theorem dX5_search_6 : decode cX5_search 6 = .ok (.if_icmp .gt 88, 3) := by decide +kernel
theorem dX5_search_9 : decode cX5_search 9 = .ok (.iload 5, 2) := by decide +kernel
theorem dX5_search_11 : decode cX5_search 11 = .ok (.aload_n 1, 1) := by decide +kernel
theorem dX5_search_12 : decode cX5_search 12 = .ok (.invokevirtual 18, 3) := by decide +kernel
theorem dX5_search_15 : decode cX5_search 15 = .ok (.if_icmp .gt 79, 3) := by decide +kernel
theorem dX5_search_18 : decode cX5_search 18 = .ok (.aload_n 0, 1) := by decide +kernel
theorem dX5_search_19 : decode cX5_search 19 = .ok (.iconst 0, 1) := by decide +kernel
theorem dX5_search_20 : decode cX5_search 20 = .ok (.iconst 0, 1) := by decide +kernel
theorem dX5_search_21 : decode cX5_search 21 = .ok (.iload 5, 2) := by decide +kernel
theorem dX5_search_23 : decode cX5_search 23 = .ok (.invokevirtual 24, 3) := by decide +kernel
theorem dX5_search_26 : decode cX5_search 26 = .ok (.iconst 1, 1) := by decide +kernel
theorem dX5_search_27 : decode cX5_search 27 = .ok (.istore 6, 2) := by decide +kernel
theorem dX5_search_29 : decode cX5_search 29 = .ok (.iconst 0, 1) := by decide +kernel
theorem dX5_search_30 : decode cX5_search 30 = .ok (.istore 7, 2) := by decide +kernel
theorem dX5_search_32 : decode cX5_search 32 = .ok (.iload 7, 2) := by decide +kernel
theorem dX5_search_34 : decode cX5_search 34 = .ok (.bipush 120, 2) := by decide +kernel
theorem dX5_search_36 : decode cX5_search 36 = .ok (.if_icmp .ge 52, 3) := by decide +kernel
theorem dX5_search_39 : decode cX5_search 39 = .ok (.iload 6, 2) := by decide +kernel
theorem dX5_search_41 : decode cX5_search 41 = .ok (.ifCond .eq 47, 3) := by decide +kernel
theorem dX5_search_44 : decode cX5_search 44 = .ok (.aload_n 0, 1) := by decide +kernel
theorem dX5_search_45 : decode cX5_search 45 = .ok (.aload_n 1, 1) := by decide +kernel
theorem dX5_search_46 : decode cX5_search 46 = .ok (.iload 5, 2) := by decide +kernel
theorem dX5_search_48 : decode cX5_search 48 = .ok (.invokevirtual 28, 3) := by decide +kernel
theorem dX5_search_51 : decode cX5_search 51 = .ok (.aload_n 2, 1) := by decide +kernel
theorem dX5_search_52 : decode cX5_search 52 = .ok (.aload_n 0, 1) := by decide +kernel
theorem dX5_search_53 : decode cX5_search 53 = .ok (.getfield 15, 3) := by decide +kernel
theorem dX5_search_56 : decode cX5_search 56 = .ok (.iload 5, 2) := by decide +kernel
theorem dX5_search_58 : decode cX5_search 58 = .ok (.iload_n 3, 1) := by decide +kernel
theorem dX5_search_59 : decode cX5_search 59 = .ok (.iload 4, 2) := by decide +kernel
theorem dX5_search_61 : decode cX5_search 61 = .ok (.invokevirtual 32, 3) := by decide +kernel
theorem dX5_search_64 : decode cX5_search 64 = .ok (.ifCond .eq 6, 3) := by decide +kernel
theorem dX5_search_67 : decode cX5_search 67 = .ok (.iload 5, 2) := by decide +kernel
theorem dX5_search_69 : decode cX5_search 69 = .ok (.ireturn, 1) := by decide +kernel
theorem dX5_search_70 : decode cX5_search 70 = .ok (.aload_n 0, 1) := by decide +kernel
theorem dX5_search_71 : decode cX5_search 71 = .ok (.aload_n 1, 1) := by decide +kernel
theorem dX5_search_72 : decode cX5_search 72 = .ok (.invokevirtual 18, 3) := by decide +kernel
theorem dX5_search_75 : decode cX5_search 75 = .ok (.iload 5, 2) := by decide +kernel
theorem dX5_search_77 : decode cX5_search 77 = .ok (.invokevirtual 38, 3) := by decide +kernel
theorem dX5_search_80 : decode cX5_search 80 = .ok (.istore 6, 2) := by decide +kernel
theorem dX5_search_82 : decode cX5_search 82 = .ok (.iinc 7 1, 3) := by decide +kernel
theorem dX5_search_85 : decode cX5_search 85 = .ok (.goto (-53), 3) := by decide +kernel
theorem dX5_search_88 : decode cX5_search 88 = .ok (.iinc 5 1, 3) := by decide +kernel
theorem dX5_search_91 : decode cX5_search 91 = .ok (.goto (-88), 3) := by decide +kernel
theorem dX5_search_94 : decode cX5_search 94 = .ok (.bipush (-9), 2) := by decide +kernel
theorem dX5_search_96 : decode cX5_search 96 = .ok (.ireturn, 1) := by decide +kernel
theorem dX5_calledAt_0 : decode cX5_calledAt 0 = .ok (.iload_n 1, 1) := by decide +kernel
theorem dX5_calledAt_1 : decode cX5_calledAt 1 = .ok (.ifCond .lt 21, 3) := by decide +kernel
theorem dX5_calledAt_4 : decode cX5_calledAt 4 = .ok (.iload_n 1, 1) := by decide +kernel
theorem dX5_calledAt_5 : decode cX5_calledAt 5 = .ok (.aload_n 0, 1) := by decide +kernel
theorem dX5_calledAt_6 : decode cX5_calledAt 6 = .ok (.getfield 9, 3) := by decide +kernel
theorem dX5_calledAt_9 : decode cX5_calledAt 9 = .ok (.arraylength, 1) := by decide +kernel
theorem dX5_calledAt_10 : decode cX5_calledAt 10 = .ok (.if_icmp .ge 12, 3) := by decide +kernel
theorem dX5_calledAt_13 : decode cX5_calledAt 13 = .ok (.aload_n 0, 1) := by decide +kernel
theorem dX5_calledAt_14 : decode cX5_calledAt 14 = .ok (.getfield 9, 3) := by decide +kernel
theorem dX5_calledAt_17 : decode cX5_calledAt 17 = .ok (.iload_n 1, 1) := by decide +kernel
theorem dX5_calledAt_18 : decode cX5_calledAt 18 = .ok (.iaload, 1) := by decide +kernel
theorem dX5_calledAt_19 : decode cX5_calledAt 19 = .ok (.goto 5, 3) := by decide +kernel
theorem dX5_calledAt_22 : decode cX5_calledAt 22 = .ok (.bipush (-9), 2) := by decide +kernel
theorem dX5_calledAt_24 : decode cX5_calledAt 24 = .ok (.ireturn, 1) := by decide +kernel
theorem dX5_chooseFrom_0 : decode cX5_chooseFrom 0 = .ok (.iload_n 1, 1) := by decide +kernel
theorem dX5_chooseFrom_1 : decode cX5_chooseFrom 1 = .ok (.istore 4, 2) := by decide +kernel
theorem dX5_chooseFrom_3 : decode cX5_chooseFrom 3 = .ok (.iload 4, 2) := by decide +kernel
theorem dX5_chooseFrom_5 : decode cX5_chooseFrom 5 = .ok (.ifCond .lt 38, 3) := by decide +kernel
theorem dX5_chooseFrom_8 : decode cX5_chooseFrom 8 = .ok (.iload 4, 2) := by decide +kernel
theorem dX5_chooseFrom_10 : decode cX5_chooseFrom 10 = .ok (.iload_n 3, 1) := by decide +kernel
theorem dX5_chooseFrom_11 : decode cX5_chooseFrom 11 = .ok (.if_icmp .ge 32, 3) := by decide +kernel
theorem dX5_chooseFrom_14 : decode cX5_chooseFrom 14 = .ok (.iload 4, 2) := by decide +kernel
theorem dX5_chooseFrom_16 : decode cX5_chooseFrom 16 = .ok (.aload_n 0, 1) := by decide +kernel
theorem dX5_chooseFrom_17 : decode cX5_chooseFrom 17 = .ok (.getfield 9, 3) := by decide +kernel
theorem dX5_chooseFrom_20 : decode cX5_chooseFrom 20 = .ok (.arraylength, 1) := by decide +kernel
theorem dX5_chooseFrom_21 : decode cX5_chooseFrom 21 = .ok (.if_icmp .ge 22, 3) := by decide +kernel
theorem dX5_chooseFrom_24 : decode cX5_chooseFrom 24 = .ok (.aload_n 0, 1) := by decide +kernel
theorem dX5_chooseFrom_25 : decode cX5_chooseFrom 25 = .ok (.getfield 9, 3) := by decide +kernel
theorem dX5_chooseFrom_28 : decode cX5_chooseFrom 28 = .ok (.iload 4, 2) := by decide +kernel
theorem dX5_chooseFrom_30 : decode cX5_chooseFrom 30 = .ok (.iload_n 2, 1) := by decide +kernel
theorem dX5_chooseFrom_31 : decode cX5_chooseFrom 31 = .ok (.iload 4, 2) := by decide +kernel
theorem dX5_chooseFrom_33 : decode cX5_chooseFrom 33 = .ok (.iadd, 1) := by decide +kernel
theorem dX5_chooseFrom_34 : decode cX5_chooseFrom 34 = .ok (.iload_n 1, 1) := by decide +kernel
theorem dX5_chooseFrom_35 : decode cX5_chooseFrom 35 = .ok (.isub, 1) := by decide +kernel
theorem dX5_chooseFrom_36 : decode cX5_chooseFrom 36 = .ok (.iastore, 1) := by decide +kernel
theorem dX5_chooseFrom_37 : decode cX5_chooseFrom 37 = .ok (.iinc 4 1, 3) := by decide +kernel
theorem dX5_chooseFrom_40 : decode cX5_chooseFrom 40 = .ok (.goto (-37), 3) := by decide +kernel
theorem dX5_chooseFrom_43 : decode cX5_chooseFrom 43 = .ok (.return_, 1) := by decide +kernel
theorem dX5_chooseNext_0 : decode cX5_chooseNext 0 = .ok (.iload_n 2, 1) := by decide +kernel
theorem dX5_chooseNext_1 : decode cX5_chooseNext 1 = .ok (.aload_n 0, 1) := by decide +kernel
theorem dX5_chooseNext_2 : decode cX5_chooseNext 2 = .ok (.getfield 9, 3) := by decide +kernel
theorem dX5_chooseNext_5 : decode cX5_chooseNext 5 = .ok (.arraylength, 1) := by decide +kernel
theorem dX5_chooseNext_6 : decode cX5_chooseNext 6 = .ok (.invokestatic 42, 3) := by decide +kernel
theorem dX5_chooseNext_9 : decode cX5_chooseNext 9 = .ok (.iconst 1, 1) := by decide +kernel
theorem dX5_chooseNext_10 : decode cX5_chooseNext 10 = .ok (.isub, 1) := by decide +kernel
theorem dX5_chooseNext_11 : decode cX5_chooseNext 11 = .ok (.istore_n 3, 1) := by decide +kernel
theorem dX5_chooseNext_12 : decode cX5_chooseNext 12 = .ok (.iload_n 3, 1) := by decide +kernel
theorem dX5_chooseNext_13 : decode cX5_chooseNext 13 = .ok (.ifCond .lt 39, 3) := by decide +kernel
theorem dX5_chooseNext_16 : decode cX5_chooseNext 16 = .ok (.aload_n 0, 1) := by decide +kernel
theorem dX5_chooseNext_17 : decode cX5_chooseNext 17 = .ok (.getfield 9, 3) := by decide +kernel
theorem dX5_chooseNext_20 : decode cX5_chooseNext 20 = .ok (.iload_n 3, 1) := by decide +kernel
theorem dX5_chooseNext_21 : decode cX5_chooseNext 21 = .ok (.iaload, 1) := by decide +kernel
theorem dX5_chooseNext_22 : decode cX5_chooseNext 22 = .ok (.iload_n 1, 1) := by decide +kernel
theorem dX5_chooseNext_23 : decode cX5_chooseNext 23 = .ok (.iload_n 2, 1) := by decide +kernel
theorem dX5_chooseNext_24 : decode cX5_chooseNext 24 = .ok (.isub, 1) := by decide +kernel
theorem dX5_chooseNext_25 : decode cX5_chooseNext 25 = .ok (.iload_n 3, 1) := by decide +kernel
theorem dX5_chooseNext_26 : decode cX5_chooseNext 26 = .ok (.iadd, 1) := by decide +kernel
theorem dX5_chooseNext_27 : decode cX5_chooseNext 27 = .ok (.if_icmp .ge 19, 3) := by decide +kernel
theorem dX5_chooseNext_30 : decode cX5_chooseNext 30 = .ok (.aload_n 0, 1) := by decide +kernel
theorem dX5_chooseNext_31 : decode cX5_chooseNext 31 = .ok (.iload_n 3, 1) := by decide +kernel
theorem dX5_chooseNext_32 : decode cX5_chooseNext 32 = .ok (.aload_n 0, 1) := by decide +kernel
theorem dX5_chooseNext_33 : decode cX5_chooseNext 33 = .ok (.getfield 9, 3) := by decide +kernel
theorem dX5_chooseNext_36 : decode cX5_chooseNext 36 = .ok (.iload_n 3, 1) := by decide +kernel
theorem dX5_chooseNext_37 : decode cX5_chooseNext 37 = .ok (.iaload, 1) := by decide +kernel
theorem dX5_chooseNext_38 : decode cX5_chooseNext 38 = .ok (.iconst 1, 1) := by decide +kernel
theorem dX5_chooseNext_39 : decode cX5_chooseNext 39 = .ok (.iadd, 1) := by decide +kernel
theorem dX5_chooseNext_40 : decode cX5_chooseNext 40 = .ok (.iload_n 2, 1) := by decide +kernel
theorem dX5_chooseNext_41 : decode cX5_chooseNext 41 = .ok (.invokevirtual 24, 3) := by decide +kernel
theorem dX5_chooseNext_44 : decode cX5_chooseNext 44 = .ok (.iconst 1, 1) := by decide +kernel
theorem dX5_chooseNext_45 : decode cX5_chooseNext 45 = .ok (.ireturn, 1) := by decide +kernel
theorem dX5_chooseNext_46 : decode cX5_chooseNext 46 = .ok (.iinc 3 (-1), 3) := by decide +kernel
theorem dX5_chooseNext_49 : decode cX5_chooseNext 49 = .ok (.goto (-37), 3) := by decide +kernel
theorem dX5_chooseNext_52 : decode cX5_chooseNext 52 = .ok (.iconst 0, 1) := by decide +kernel
theorem dX5_chooseNext_53 : decode cX5_chooseNext 53 = .ok (.ireturn, 1) := by decide +kernel
theorem dX5_readNumbers_0 : decode cX5_readNumbers 0 = .ok (.iconst 0, 1) := by decide +kernel
theorem dX5_readNumbers_1 : decode cX5_readNumbers 1 = .ok (.istore_n 3, 1) := by decide +kernel
theorem dX5_readNumbers_2 : decode cX5_readNumbers 2 = .ok (.iload_n 3, 1) := by decide +kernel
theorem dX5_readNumbers_3 : decode cX5_readNumbers 3 = .ok (.iload_n 2, 1) := by decide +kernel
theorem dX5_readNumbers_4 : decode cX5_readNumbers 4 = .ok (.if_icmp .ge 59, 3) := by decide +kernel
theorem dX5_readNumbers_7 : decode cX5_readNumbers 7 = .ok (.iload_n 3, 1) := by decide +kernel
theorem dX5_readNumbers_8 : decode cX5_readNumbers 8 = .ok (.aload_n 0, 1) := by decide +kernel
theorem dX5_readNumbers_9 : decode cX5_readNumbers 9 = .ok (.getfield 9, 3) := by decide +kernel
theorem dX5_readNumbers_12 : decode cX5_readNumbers 12 = .ok (.arraylength, 1) := by decide +kernel
theorem dX5_readNumbers_13 : decode cX5_readNumbers 13 = .ok (.if_icmp .ge 50, 3) := by decide +kernel
theorem dX5_readNumbers_16 : decode cX5_readNumbers 16 = .ok (.iload_n 3, 1) := by decide +kernel
theorem dX5_readNumbers_17 : decode cX5_readNumbers 17 = .ok (.aload_n 0, 1) := by decide +kernel
theorem dX5_readNumbers_18 : decode cX5_readNumbers 18 = .ok (.getfield 15, 3) := by decide +kernel
theorem dX5_readNumbers_21 : decode cX5_readNumbers 21 = .ok (.arraylength, 1) := by decide +kernel
theorem dX5_readNumbers_22 : decode cX5_readNumbers 22 = .ok (.if_icmp .ge 41, 3) := by decide +kernel
theorem dX5_readNumbers_25 : decode cX5_readNumbers 25 = .ok (.aload_n 1, 1) := by decide +kernel
theorem dX5_readNumbers_26 : decode cX5_readNumbers 26 = .ok (.aload_n 0, 1) := by decide +kernel
theorem dX5_readNumbers_27 : decode cX5_readNumbers 27 = .ok (.getfield 9, 3) := by decide +kernel
theorem dX5_readNumbers_30 : decode cX5_readNumbers 30 = .ok (.iload_n 3, 1) := by decide +kernel
theorem dX5_readNumbers_31 : decode cX5_readNumbers 31 = .ok (.iaload, 1) := by decide +kernel
theorem dX5_readNumbers_32 : decode cX5_readNumbers 32 = .ok (.invokevirtual 48, 3) := by decide +kernel
theorem dX5_readNumbers_35 : decode cX5_readNumbers 35 = .ok (.astore 4, 2) := by decide +kernel
theorem dX5_readNumbers_37 : decode cX5_readNumbers 37 = .ok (.aload_n 0, 1) := by decide +kernel
theorem dX5_readNumbers_38 : decode cX5_readNumbers 38 = .ok (.getfield 15, 3) := by decide +kernel
theorem dX5_readNumbers_41 : decode cX5_readNumbers 41 = .ok (.iload_n 3, 1) := by decide +kernel
theorem dX5_readNumbers_42 : decode cX5_readNumbers 42 = .ok (.aload 4, 2) := by decide +kernel
theorem dX5_readNumbers_44 : decode cX5_readNumbers 44 = .ok (.ifnonnull 7, 3) := by decide +kernel
theorem dX5_readNumbers_47 : decode cX5_readNumbers 47 = .ok (.iconst 0, 1) := by decide +kernel
theorem dX5_readNumbers_48 : decode cX5_readNumbers 48 = .ok (.goto 8, 3) := by decide +kernel
theorem dX5_readNumbers_51 : decode cX5_readNumbers 51 = .ok (.aload 4, 2) := by decide +kernel
theorem dX5_readNumbers_53 : decode cX5_readNumbers 53 = .ok (.invokevirtual 52, 3) := by decide +kernel
theorem dX5_readNumbers_56 : decode cX5_readNumbers 56 = .ok (.iastore, 1) := by decide +kernel
theorem dX5_readNumbers_57 : decode cX5_readNumbers 57 = .ok (.iinc 3 1, 3) := by decide +kernel
theorem dX5_readNumbers_60 : decode cX5_readNumbers 60 = .ok (.goto (-58), 3) := by decide +kernel
theorem dX5_readNumbers_63 : decode cX5_readNumbers 63 = .ok (.return_, 1) := by decide +kernel
theorem dX6_init_0 : decode cX6_init 0 = .ok (.aload_n 0, 1) := by decide +kernel
theorem dX6_init_1 : decode cX6_init 1 = .ok (.invokespecial 3, 3) := by decide +kernel
theorem dX6_init_4 : decode cX6_init 4 = .ok (.aload_n 0, 1) := by decide +kernel
theorem dX6_init_5 : decode cX6_init 5 = .ok (.bipush 100, 2) := by decide +kernel
theorem dX6_init_7 : decode cX6_init 7 = .ok (.newarray .int, 2) := by decide +kernel
theorem dX6_init_9 : decode cX6_init 9 = .ok (.putfield 9, 3) := by decide +kernel
theorem dX6_init_12 : decode cX6_init 12 = .ok (.aload_n 0, 1) := by decide +kernel
theorem dX6_init_13 : decode cX6_init 13 = .ok (.iconst 0, 1) := by decide +kernel
theorem dX6_init_14 : decode cX6_init 14 = .ok (.putfield 15, 3) := by decide +kernel
theorem dX6_init_17 : decode cX6_init 17 = .ok (.return_, 1) := by decide +kernel
theorem dX6_read_0 : decode cX6_read 0 = .ok (.aload_n 0, 1) := by decide +kernel
theorem dX6_read_1 : decode cX6_read 1 = .ok (.iload 4, 2) := by decide +kernel
theorem dX6_read_3 : decode cX6_read 3 = .ok (.aload_n 0, 1) := by decide +kernel
theorem dX6_read_4 : decode cX6_read 4 = .ok (.getfield 9, 3) := by decide +kernel
theorem dX6_read_7 : decode cX6_read 7 = .ok (.arraylength, 1) := by decide +kernel
theorem dX6_read_8 : decode cX6_read 8 = .ok (.invokestatic 19, 3) := by decide +kernel
theorem dX6_read_11 : decode cX6_read 11 = .ok (.putfield 15, 3) := by decide +kernel
theorem dX6_read_14 : decode cX6_read 14 = .ok (.iconst 0, 1) := by decide +kernel
theorem dX6_read_15 : decode cX6_read 15 = .ok (.istore 5, 2) := by decide +kernel
theorem dX6_read_17 : decode cX6_read 17 = .ok (.iload 5, 2) := by decide +kernel
theorem dX6_read_19 : decode cX6_read 19 = .ok (.aload_n 0, 1) := by decide +kernel
theorem dX6_read_20 : decode cX6_read 20 = .ok (.getfield 15, 3) := by decide +kernel
theorem dX6_read_23 : decode cX6_read 23 = .ok (.if_icmp .ge 35, 3) := by decide +kernel
theorem dX6_read_26 : decode cX6_read 26 = .ok (.iload 5, 2) := by decide +kernel
theorem dX6_read_28 : decode cX6_read 28 = .ok (.aload_n 0, 1) := by decide +kernel
theorem dX6_read_29 : decode cX6_read 29 = .ok (.getfield 9, 3) := by decide +kernel
theorem dX6_read_32 : decode cX6_read 32 = .ok (.arraylength, 1) := by decide +kernel
theorem dX6_read_33 : decode cX6_read 33 = .ok (.if_icmp .ge 25, 3) := by decide +kernel
theorem dX6_read_36 : decode cX6_read 36 = .ok (.aload_n 0, 1) := by decide +kernel
theorem dX6_read_37 : decode cX6_read 37 = .ok (.getfield 9, 3) := by decide +kernel
theorem dX6_read_40 : decode cX6_read 40 = .ok (.iload 5, 2) := by decide +kernel
theorem dX6_read_42 : decode cX6_read 42 = .ok (.aload_n 1, 1) := by decide +kernel
theorem dX6_read_43 : decode cX6_read 43 = .ok (.iload_n 2, 1) := by decide +kernel
theorem dX6_read_44 : decode cX6_read 44 = .ok (.iload_n 3, 1) := by decide +kernel
theorem dX6_read_45 : decode cX6_read 45 = .ok (.iload 5, 2) := by decide +kernel
theorem dX6_read_47 : decode cX6_read 47 = .ok (.iadd, 1) := by decide +kernel
theorem dX6_read_48 : decode cX6_read 48 = .ok (.invokevirtual 25, 3) := by decide +kernel
theorem dX6_read_51 : decode cX6_read 51 = .ok (.iastore, 1) := by decide +kernel
theorem dX6_read_52 : decode cX6_read 52 = .ok (.iinc 5 1, 3) := by decide +kernel
theorem dX6_read_55 : decode cX6_read 55 = .ok (.goto (-38), 3) := by decide +kernel
theorem dX6_read_58 : decode cX6_read 58 = .ok (.return_, 1) := by decide +kernel
theorem dX6_firstFault_0 : decode cX6_firstFault 0 = .ok (.iconst 0, 1) := by decide +kernel
theorem dX6_firstFault_1 : decode cX6_firstFault 1 = .ok (.istore_n 1, 1) := by decide +kernel
theorem dX6_firstFault_2 : decode cX6_firstFault 2 = .ok (.iload_n 1, 1) := by decide +kernel
theorem dX6_firstFault_3 : decode cX6_firstFault 3 = .ok (.aload_n 0, 1) := by decide +kernel
theorem dX6_firstFault_4 : decode cX6_firstFault 4 = .ok (.getfield 15, 3) := by decide +kernel
theorem dX6_firstFault_7 : decode cX6_firstFault 7 = .ok (.if_icmp .ge 33, 3) := by decide +kernel
theorem dX6_firstFault_10 : decode cX6_firstFault 10 = .ok (.aload_n 0, 1) := by decide +kernel
theorem dX6_firstFault_11 : decode cX6_firstFault 11 = .ok (.iload_n 1, 1) := by decide +kernel
theorem dX6_firstFault_12 : decode cX6_firstFault 12 = .ok (.invokevirtual 30, 3) := by decide +kernel
theorem dX6_firstFault_15 : decode cX6_firstFault 15 = .ok (.ifCond .ne 19, 3) := by decide +kernel
theorem dX6_firstFault_18 : decode cX6_firstFault 18 = .ok (.aload_n 0, 1) := by decide +kernel
theorem dX6_firstFault_19 : decode cX6_firstFault 19 = .ok (.iload_n 1, 1) := by decide +kernel
theorem dX6_firstFault_20 : decode cX6_firstFault 20 = .ok (.invokevirtual 34, 3) := by decide +kernel
theorem dX6_firstFault_23 : decode cX6_firstFault 23 = .ok (.ifCond .eq 9, 3) := by decide +kernel
theorem dX6_firstFault_26 : decode cX6_firstFault 26 = .ok (.iload_n 1, 1) := by decide +kernel
theorem dX6_firstFault_27 : decode cX6_firstFault 27 = .ok (.iconst 1, 1) := by decide +kernel
theorem dX6_firstFault_28 : decode cX6_firstFault 28 = .ok (.isub, 1) := by decide +kernel
theorem dX6_firstFault_29 : decode cX6_firstFault 29 = .ok (.goto 4, 3) := by decide +kernel
theorem dX6_firstFault_32 : decode cX6_firstFault 32 = .ok (.iload_n 1, 1) := by decide +kernel
theorem dX6_firstFault_33 : decode cX6_firstFault 33 = .ok (.ireturn, 1) := by decide +kernel
theorem dX6_firstFault_34 : decode cX6_firstFault 34 = .ok (.iinc 1 1, 3) := by decide +kernel
theorem dX6_firstFault_37 : decode cX6_firstFault 37 = .ok (.goto (-35), 3) := by decide +kernel
theorem dX6_firstFault_40 : decode cX6_firstFault 40 = .ok (.aload_n 0, 1) := by decide +kernel
theorem dX6_firstFault_41 : decode cX6_firstFault 41 = .ok (.getfield 15, 3) := by decide +kernel
theorem dX6_firstFault_44 : decode cX6_firstFault 44 = .ok (.bipush 9, 2) := by decide +kernel
theorem dX6_firstFault_46 : decode cX6_firstFault 46 = .ok (.irem, 1) := by decide +kernel
theorem dX6_firstFault_47 : decode cX6_firstFault 47 = .ok (.bipush 8, 2) := by decide +kernel
theorem dX6_firstFault_49 : decode cX6_firstFault 49 = .ok (.if_icmp .ne 7, 3) := by decide +kernel
theorem dX6_firstFault_52 : decode cX6_firstFault 52 = .ok (.iconst (-1), 1) := by decide +kernel
theorem dX6_firstFault_53 : decode cX6_firstFault 53 = .ok (.goto 7, 3) := by decide +kernel
theorem dX6_firstFault_56 : decode cX6_firstFault 56 = .ok (.aload_n 0, 1) := by decide +kernel
theorem dX6_firstFault_57 : decode cX6_firstFault 57 = .ok (.getfield 15, 3) := by decide +kernel
theorem dX6_firstFault_60 : decode cX6_firstFault 60 = .ok (.ireturn, 1) := by decide +kernel
theorem dX6_people_0 : decode cX6_people 0 = .ok (.aload_n 0, 1) := by decide +kernel
theorem dX6_people_1 : decode cX6_people 1 = .ok (.getfield 15, 3) := by decide +kernel
theorem dX6_people_4 : decode cX6_people 4 = .ok (.iconst 1, 1) := by decide +kernel
theorem dX6_people_5 : decode cX6_people 5 = .ok (.iadd, 1) := by decide +kernel
theorem dX6_people_6 : decode cX6_people 6 = .ok (.bipush 9, 2) := by decide +kernel
theorem dX6_people_8 : decode cX6_people 8 = .ok (.idiv, 1) := by decide +kernel
theorem dX6_people_9 : decode cX6_people 9 = .ok (.ireturn, 1) := by decide +kernel
theorem dX6_one_0 : decode cX6_one 0 = .ok (.iload_n 1, 1) := by decide +kernel
theorem dX6_one_1 : decode cX6_one 1 = .ok (.bipush 9, 2) := by decide +kernel
theorem dX6_one_3 : decode cX6_one 3 = .ok (.imul, 1) := by decide +kernel
theorem dX6_one_4 : decode cX6_one 4 = .ok (.istore_n 2, 1) := by decide +kernel
theorem dX6_one_5 : decode cX6_one 5 = .ok (.aload_n 0, 1) := by decide +kernel
theorem dX6_one_6 : decode cX6_one 6 = .ok (.iload_n 2, 1) := by decide +kernel
theorem dX6_one_7 : decode cX6_one 7 = .ok (.iconst 1, 1) := by decide +kernel
theorem dX6_one_8 : decode cX6_one 8 = .ok (.iadd, 1) := by decide +kernel
theorem dX6_one_9 : decode cX6_one 9 = .ok (.invokevirtual 37, 3) := by decide +kernel
theorem dX6_one_12 : decode cX6_one 12 = .ok (.istore_n 3, 1) := by decide +kernel
theorem dX6_one_13 : decode cX6_one 13 = .ok (.aload_n 0, 1) := by decide +kernel
theorem dX6_one_14 : decode cX6_one 14 = .ok (.iload_n 2, 1) := by decide +kernel
theorem dX6_one_15 : decode cX6_one 15 = .ok (.iconst 2, 1) := by decide +kernel
theorem dX6_one_16 : decode cX6_one 16 = .ok (.iadd, 1) := by decide +kernel
theorem dX6_one_17 : decode cX6_one 17 = .ok (.invokevirtual 41, 3) := by decide +kernel
theorem dX6_one_20 : decode cX6_one 20 = .ok (.istore 4, 2) := by decide +kernel
theorem dX6_one_22 : decode cX6_one 22 = .ok (.aload_n 0, 1) := by decide +kernel
theorem dX6_one_23 : decode cX6_one 23 = .ok (.iload_n 2, 1) := by decide +kernel
theorem dX6_one_24 : decode cX6_one 24 = .ok (.iconst 4, 1) := by decide +kernel
theorem dX6_one_25 : decode cX6_one 25 = .ok (.iadd, 1) := by decide +kernel
theorem dX6_one_26 : decode cX6_one 26 = .ok (.invokevirtual 41, 3) := by decide +kernel
theorem dX6_one_29 : decode cX6_one 29 = .ok (.istore 5, 2) := by decide +kernel
theorem dX6_one_31 : decode cX6_one 31 = .ok (.aload_n 0, 1) := by decide +kernel
theorem dX6_one_32 : decode cX6_one 32 = .ok (.iload_n 2, 1) := by decide +kernel
theorem dX6_one_33 : decode cX6_one 33 = .ok (.bipush 6, 2) := by decide +kernel
theorem dX6_one_35 : decode cX6_one 35 = .ok (.iadd, 1) := by decide +kernel
theorem dX6_one_36 : decode cX6_one 36 = .ok (.invokevirtual 41, 3) := by decide +kernel
theorem dX6_one_39 : decode cX6_one 39 = .ok (.istore 6, 2) := by decide +kernel
theorem dX6_one_41 : decode cX6_one 41 = .ok (.aload_n 0, 1) := by decide +kernel
theorem dX6_one_42 : decode cX6_one 42 = .ok (.iload_n 2, 1) := by decide +kernel
theorem dX6_one_43 : decode cX6_one 43 = .ok (.invokevirtual 44, 3) := by decide +kernel
theorem dX6_one_46 : decode cX6_one 46 = .ok (.bipush 102, 2) := by decide +kernel
theorem dX6_one_48 : decode cX6_one 48 = .ok (.if_icmp .ne 18, 3) := by decide +kernel
theorem dX6_one_51 : decode cX6_one 51 = .ok (.new 47, 3) := by decide +kernel
theorem dX6_one_54 : decode cX6_one 54 = .ok (.dup, 1) := by decide +kernel
theorem dX6_one_55 : decode cX6_one 55 = .ok (.iload_n 3, 1) := by decide +kernel
theorem dX6_one_56 : decode cX6_one 56 = .ok (.iload 4, 2) := by decide +kernel
theorem dX6_one_58 : decode cX6_one 58 = .ok (.iload 5, 2) := by decide +kernel
theorem dX6_one_60 : decode cX6_one 60 = .ok (.iload 6, 2) := by decide +kernel
theorem dX6_one_62 : decode cX6_one 62 = .ok (.invokespecial 49, 3) := by decide +kernel
theorem dX6_one_65 : decode cX6_one 65 = .ok (.areturn, 1) := by decide +kernel
theorem dX6_one_66 : decode cX6_one 66 = .ok (.aload_n 0, 1) := by decide +kernel
theorem dX6_one_67 : decode cX6_one 67 = .ok (.iload_n 2, 1) := by decide +kernel
theorem dX6_one_68 : decode cX6_one 68 = .ok (.invokevirtual 44, 3) := by decide +kernel
theorem dX6_one_71 : decode cX6_one 71 = .ok (.bipush 108, 2) := by decide +kernel
theorem dX6_one_73 : decode cX6_one 73 = .ok (.if_icmp .ne 18, 3) := by decide +kernel
theorem dX6_one_76 : decode cX6_one 76 = .ok (.new 52, 3) := by decide +kernel
theorem dX6_one_79 : decode cX6_one 79 = .ok (.dup, 1) := by decide +kernel
theorem dX6_one_80 : decode cX6_one 80 = .ok (.iload_n 3, 1) := by decide +kernel
theorem dX6_one_81 : decode cX6_one 81 = .ok (.iload 4, 2) := by decide +kernel
theorem dX6_one_83 : decode cX6_one 83 = .ok (.iload 5, 2) := by decide +kernel
theorem dX6_one_85 : decode cX6_one 85 = .ok (.iload 6, 2) := by decide +kernel
theorem dX6_one_87 : decode cX6_one 87 = .ok (.invokespecial 54, 3) := by decide +kernel
theorem dX6_one_90 : decode cX6_one 90 = .ok (.areturn, 1) := by decide +kernel
theorem dX6_one_91 : decode cX6_one 91 = .ok (.new 55, 3) := by decide +kernel
theorem dX6_one_94 : decode cX6_one 94 = .ok (.dup, 1) := by decide +kernel
theorem dX6_one_95 : decode cX6_one 95 = .ok (.iload_n 3, 1) := by decide +kernel
theorem dX6_one_96 : decode cX6_one 96 = .ok (.iload 4, 2) := by decide +kernel
theorem dX6_one_98 : decode cX6_one 98 = .ok (.iload 5, 2) := by decide +kernel
theorem dX6_one_100 : decode cX6_one 100 = .ok (.iload 6, 2) := by decide +kernel
theorem dX6_one_102 : decode cX6_one 102 = .ok (.invokespecial 57, 3) := by decide +kernel
theorem dX6_one_105 : decode cX6_one 105 = .ok (.areturn, 1) := by decide +kernel
theorem dX6_code_0 : decode cX6_code 0 = .ok (.iload_n 1, 1) := by decide +kernel
theorem dX6_code_1 : decode cX6_code 1 = .ok (.ifCond .lt 29, 3) := by decide +kernel
theorem dX6_code_4 : decode cX6_code 4 = .ok (.iload_n 1, 1) := by decide +kernel
theorem dX6_code_5 : decode cX6_code 5 = .ok (.aload_n 0, 1) := by decide +kernel
theorem dX6_code_6 : decode cX6_code 6 = .ok (.getfield 15, 3) := by decide +kernel
theorem dX6_code_9 : decode cX6_code 9 = .ok (.if_icmp .ge 21, 3) := by decide +kernel
theorem dX6_code_12 : decode cX6_code 12 = .ok (.iload_n 1, 1) := by decide +kernel
theorem dX6_code_13 : decode cX6_code 13 = .ok (.aload_n 0, 1) := by decide +kernel
theorem dX6_code_14 : decode cX6_code 14 = .ok (.getfield 9, 3) := by decide +kernel
theorem dX6_code_17 : decode cX6_code 17 = .ok (.arraylength, 1) := by decide +kernel
theorem dX6_code_18 : decode cX6_code 18 = .ok (.if_icmp .ge 12, 3) := by decide +kernel
theorem dX6_code_21 : decode cX6_code 21 = .ok (.aload_n 0, 1) := by decide +kernel
theorem dX6_code_22 : decode cX6_code 22 = .ok (.getfield 9, 3) := by decide +kernel
theorem dX6_code_25 : decode cX6_code 25 = .ok (.iload_n 1, 1) := by decide +kernel
theorem dX6_code_26 : decode cX6_code 26 = .ok (.iaload, 1) := by decide +kernel
theorem dX6_code_27 : decode cX6_code 27 = .ok (.goto 4, 3) := by decide +kernel
theorem dX6_code_30 : decode cX6_code 30 = .ok (.iconst (-1), 1) := by decide +kernel
theorem dX6_code_31 : decode cX6_code 31 = .ok (.ireturn, 1) := by decide +kernel
theorem dX6_digit_0 : decode cX6_digit 0 = .ok (.aload_n 0, 1) := by decide +kernel
theorem dX6_digit_1 : decode cX6_digit 1 = .ok (.iload_n 1, 1) := by decide +kernel
theorem dX6_digit_2 : decode cX6_digit 2 = .ok (.invokevirtual 44, 3) := by decide +kernel
theorem dX6_digit_5 : decode cX6_digit 5 = .ok (.istore_n 2, 1) := by decide +kernel
theorem dX6_digit_6 : decode cX6_digit 6 = .ok (.iload_n 2, 1) := by decide +kernel
