theorem dX1_behind_9 : decode cX1_behind 9 = .ok (.i2l, 1) := by decide +kernel
theorem dX1_behind_10 : decode cX1_behind 10 = .ok (.lmul, 1) := by decide +kernel
theorem dX1_behind_11 : decode cX1_behind 11 = .ok (.iload_n 1, 1) := by decide +kernel
theorem dX1_behind_12 : decode cX1_behind 12 = .ok (.i2l, 1) := by decide +kernel
theorem dX1_behind_13 : decode cX1_behind 13 = .ok (.ladd, 1) := by decide +kernel
theorem dX1_behind_14 : decode cX1_behind 14 = .ok (.lstore_n 3, 1) := by decide +kernel
theorem dX1_behind_15 : decode cX1_behind 15 = .ok (.iconst 0, 1) := by decide +kernel
theorem dX1_behind_16 : decode cX1_behind 16 = .ok (.istore 5, 2) := by decide +kernel
theorem dX1_behind_18 : decode cX1_behind 18 = .ok (.iload 5, 2) := by decide +kernel
theorem dX1_behind_20 : decode cX1_behind 20 = .ok (.iload_n 2, 1) := by decide +kernel
theorem dX1_behind_21 : decode cX1_behind 21 = .ok (.if_icmp .ge 19, 3) := by decide +kernel
theorem dX1_behind_24 : decode cX1_behind 24 = .ok (.ldc2_w 37, 3) := by decide +kernel
theorem dX1_behind_27 : decode cX1_behind 27 = .ok (.lload_n 3, 1) := by decide +kernel
theorem dX1_behind_28 : decode cX1_behind 28 = .ok (.lmul, 1) := by decide +kernel
theorem dX1_behind_29 : decode cX1_behind 29 = .ok (.ldc2_w 39, 3) := by decide +kernel
theorem dX1_behind_32 : decode cX1_behind 32 = .ok (.ladd, 1) := by decide +kernel
theorem dX1_behind_33 : decode cX1_behind 33 = .ok (.lstore_n 3, 1) := by decide +kernel
theorem dX1_behind_34 : decode cX1_behind 34 = .ok (.iinc 5 1, 3) := by decide +kernel
theorem dX1_behind_37 : decode cX1_behind 37 = .ok (.goto (-19), 3) := by decide +kernel
theorem dX1_behind_40 : decode cX1_behind 40 = .ok (.lload_n 3, 1) := by decide +kernel
theorem dX1_behind_41 : decode cX1_behind 41 = .ok (.lreturn, 1) := by decide +kernel
theorem dX1_lastValue_0 : decode cX1_lastValue 0 = .ok (.aload_n 0, 1) := by decide +kernel
theorem dX1_lastValue_1 : decode cX1_lastValue 1 = .ok (.iload_n 1, 1) := by decide +kernel
theorem dX1_lastValue_2 : decode cX1_lastValue 2 = .ok (.aload_n 0, 1) := by decide +kernel
theorem dX1_lastValue_3 : decode cX1_lastValue 3 = .ok (.getfield 13, 3) := by decide +kernel
theorem dX1_lastValue_6 : decode cX1_lastValue 6 = .ok (.iload_n 1, 1) := by decide +kernel
theorem dX1_lastValue_7 : decode cX1_lastValue 7 = .ok (.iaload, 1) := by decide +kernel
theorem dX1_lastValue_8 : decode cX1_lastValue 8 = .ok (.invokevirtual 41, 3) := by decide +kernel
theorem dX1_lastValue_11 : decode cX1_lastValue 11 = .ok (.bipush 33, 2) := by decide +kernel
theorem dX1_lastValue_13 : decode cX1_lastValue 13 = .ok (.lushr, 1) := by decide +kernel
theorem dX1_lastValue_14 : decode cX1_lastValue 14 = .ok (.l2i, 1) := by decide +kernel
theorem dX1_lastValue_15 : decode cX1_lastValue 15 = .ok (.ireturn, 1) := by decide +kernel
theorem dX1_settles_0 : decode cX1_settles 0 = .ok (.iconst 1, 1) := by decide +kernel
theorem dX1_settles_1 : decode cX1_settles 1 = .ok (.aload_n 0, 1) := by decide +kernel
theorem dX1_settles_2 : decode cX1_settles 2 = .ok (.getfield 20, 3) := by decide +kernel
theorem dX1_settles_5 : decode cX1_settles 5 = .ok (.iload_n 1, 1) := by decide +kernel
theorem dX1_settles_6 : decode cX1_settles 6 = .ok (.iaload, 1) := by decide +kernel
theorem dX1_settles_7 : decode cX1_settles 7 = .ok (.ishl, 1) := by decide +kernel
theorem dX1_settles_8 : decode cX1_settles 8 = .ok (.iconst 1, 1) := by decide +kernel
theorem dX1_settles_9 : decode cX1_settles 9 = .ok (.isub, 1) := by decide +kernel
theorem dX1_settles_10 : decode cX1_settles 10 = .ok (.istore_n 3, 1) := by decide +kernel
theorem dX1_settles_11 : decode cX1_settles 11 = .ok (.aload_n 0, 1) := by decide +kernel
theorem dX1_settles_12 : decode cX1_settles 12 = .ok (.getfield 20, 3) := by decide +kernel
theorem dX1_settles_15 : decode cX1_settles 15 = .ok (.iload_n 1, 1) := by decide +kernel
theorem dX1_settles_16 : decode cX1_settles 16 = .ok (.iaload, 1) := by decide +kernel
theorem dX1_settles_17 : decode cX1_settles 17 = .ok (.ifCond .eq 13, 3) := by decide +kernel
theorem dX1_settles_20 : decode cX1_settles 20 = .ok (.iload_n 2, 1) := by decide +kernel
theorem dX1_settles_21 : decode cX1_settles 21 = .ok (.iload_n 3, 1) := by decide +kernel
theorem dX1_settles_22 : decode cX1_settles 22 = .ok (.iand, 1) := by decide +kernel
theorem dX1_settles_23 : decode cX1_settles 23 = .ok (.ifCond .ne 7, 3) := by decide +kernel
theorem dX1_settles_26 : decode cX1_settles 26 = .ok (.iconst 1, 1) := by decide +kernel
theorem dX1_settles_27 : decode cX1_settles 27 = .ok (.goto 4, 3) := by decide +kernel
theorem dX1_settles_30 : decode cX1_settles 30 = .ok (.iconst 0, 1) := by decide +kernel
theorem dX1_settles_31 : decode cX1_settles 31 = .ok (.ireturn, 1) := by decide +kernel
theorem dX1_allLosses_0 : decode cX1_allLosses 0 = .ok (.iconst 0, 1) := by decide +kernel
theorem dX1_allLosses_1 : decode cX1_allLosses 1 = .ok (.istore_n 1, 1) := by decide +kernel
theorem dX1_allLosses_2 : decode cX1_allLosses 2 = .ok (.iconst 0, 1) := by decide +kernel
theorem dX1_allLosses_3 : decode cX1_allLosses 3 = .ok (.istore_n 2, 1) := by decide +kernel
theorem dX1_allLosses_4 : decode cX1_allLosses 4 = .ok (.iload_n 2, 1) := by decide +kernel
theorem dX1_allLosses_5 : decode cX1_allLosses 5 = .ok (.aload_n 0, 1) := by decide +kernel
theorem dX1_allLosses_6 : decode cX1_allLosses 6 = .ok (.getfield 7, 3) := by decide +kernel
theorem dX1_allLosses_9 : decode cX1_allLosses 9 = .ok (.if_icmp .ge 18, 3) := by decide +kernel
theorem dX1_allLosses_12 : decode cX1_allLosses 12 = .ok (.iload_n 1, 1) := by decide +kernel
theorem dX1_allLosses_13 : decode cX1_allLosses 13 = .ok (.aload_n 0, 1) := by decide +kernel
theorem dX1_allLosses_14 : decode cX1_allLosses 14 = .ok (.getfield 26, 3) := by decide +kernel
theorem dX1_allLosses_17 : decode cX1_allLosses 17 = .ok (.iload_n 2, 1) := by decide +kernel
theorem dX1_allLosses_18 : decode cX1_allLosses 18 = .ok (.iaload, 1) := by decide +kernel
theorem dX1_allLosses_19 : decode cX1_allLosses 19 = .ok (.iadd, 1) := by decide +kernel
theorem dX1_allLosses_20 : decode cX1_allLosses 20 = .ok (.istore_n 1, 1) := by decide +kernel
theorem dX1_allLosses_21 : decode cX1_allLosses 21 = .ok (.iinc 2 1, 3) := by decide +kernel
theorem dX1_allLosses_24 : decode cX1_allLosses 24 = .ok (.goto (-20), 3) := by decide +kernel
theorem dX1_allLosses_27 : decode cX1_allLosses 27 = .ok (.iload_n 1, 1) := by decide +kernel
theorem dX1_allLosses_28 : decode cX1_allLosses 28 = .ok (.ireturn, 1) := by decide +kernel
theorem dX1_stepsWithLosses_0 : decode cX1_stepsWithLosses 0 = .ok (.aload_n 0, 1) := by decide +kernel
theorem dX1_stepsWithLosses_1 : decode cX1_stepsWithLosses 1 = .ok (.getfield 13, 3) := by decide +kernel
theorem dX1_stepsWithLosses_4 : decode cX1_stepsWithLosses 4 = .ok (.iload_n 1, 1) := by decide +kernel
theorem dX1_stepsWithLosses_5 : decode cX1_stepsWithLosses 5 = .ok (.iaload, 1) := by decide +kernel
theorem dX1_stepsWithLosses_6 : decode cX1_stepsWithLosses 6 = .ok (.aload_n 0, 1) := by decide +kernel
theorem dX1_stepsWithLosses_7 : decode cX1_stepsWithLosses 7 = .ok (.getfield 26, 3) := by decide +kernel
theorem dX1_stepsWithLosses_10 : decode cX1_stepsWithLosses 10 = .ok (.iload_n 1, 1) := by decide +kernel
theorem dX1_stepsWithLosses_11 : decode cX1_stepsWithLosses 11 = .ok (.iaload, 1) := by decide +kernel
theorem dX1_stepsWithLosses_12 : decode cX1_stepsWithLosses 12 = .ok (.aload_n 0, 1) := by decide +kernel
theorem dX1_stepsWithLosses_13 : decode cX1_stepsWithLosses 13 = .ok (.getfield 23, 3) := by decide +kernel
theorem dX1_stepsWithLosses_16 : decode cX1_stepsWithLosses 16 = .ok (.iload_n 1, 1) := by decide +kernel
theorem dX1_stepsWithLosses_17 : decode cX1_stepsWithLosses 17 = .ok (.iaload, 1) := by decide +kernel
theorem dX1_stepsWithLosses_18 : decode cX1_stepsWithLosses 18 = .ok (.aload_n 0, 1) := by decide +kernel
theorem dX1_stepsWithLosses_19 : decode cX1_stepsWithLosses 19 = .ok (.getfield 13, 3) := by decide +kernel
theorem dX1_stepsWithLosses_22 : decode cX1_stepsWithLosses 22 = .ok (.iload_n 1, 1) := by decide +kernel
theorem dX1_stepsWithLosses_23 : decode cX1_stepsWithLosses 23 = .ok (.iaload, 1) := by decide +kernel
theorem dX1_stepsWithLosses_24 : decode cX1_stepsWithLosses 24 = .ok (.invokestatic 45, 3) := by decide +kernel
theorem dX1_stepsWithLosses_27 : decode cX1_stepsWithLosses 27 = .ok (.imul, 1) := by decide +kernel
theorem dX1_stepsWithLosses_28 : decode cX1_stepsWithLosses 28 = .ok (.iadd, 1) := by decide +kernel
theorem dX1_stepsWithLosses_29 : decode cX1_stepsWithLosses 29 = .ok (.ireturn, 1) := by decide +kernel
theorem dX2_init_0 : decode cX2_init 0 = .ok (.aload_n 0, 1) := by decide +kernel
theorem dX2_init_1 : decode cX2_init 1 = .ok (.invokespecial 3, 3) := by decide +kernel
theorem dX2_init_4 : decode cX2_init 4 = .ok (.aload_n 0, 1) := by decide +kernel
theorem dX2_init_5 : decode cX2_init 5 = .ok (.bipush 24, 2) := by decide +kernel
theorem dX2_init_7 : decode cX2_init 7 = .ok (.newarray .int, 2) := by decide +kernel
theorem dX2_init_9 : decode cX2_init 9 = .ok (.putfield 9, 3) := by decide +kernel
theorem dX2_init_12 : decode cX2_init 12 = .ok (.aload_n 0, 1) := by decide +kernel
theorem dX2_init_13 : decode cX2_init 13 = .ok (.bipush 24, 2) := by decide +kernel
theorem dX2_init_15 : decode cX2_init 15 = .ok (.newarray .int, 2) := by decide +kernel
theorem dX2_init_17 : decode cX2_init 17 = .ok (.putfield 15, 3) := by decide +kernel
theorem dX2_init_20 : decode cX2_init 20 = .ok (.aload_n 0, 1) := by decide +kernel
theorem dX2_init_21 : decode cX2_init 21 = .ok (.iconst 0, 1) := by decide +kernel
theorem dX2_init_22 : decode cX2_init 22 = .ok (.putfield 18, 3) := by decide +kernel
theorem dX2_init_25 : decode cX2_init 25 = .ok (.return_, 1) := by decide +kernel
theorem dX2_append_0 : decode cX2_append 0 = .ok (.aload_n 0, 1) := by decide +kernel
theorem dX2_append_1 : decode cX2_append 1 = .ok (.getfield 18, 3) := by decide +kernel
theorem dX2_append_4 : decode cX2_append 4 = .ok (.istore_n 3, 1) := by decide +kernel
theorem dX2_append_5 : decode cX2_append 5 = .ok (.aload_n 0, 1) := by decide +kernel
theorem dX2_append_6 : decode cX2_append 6 = .ok (.getfield 9, 3) := by decide +kernel
theorem dX2_append_9 : decode cX2_append 9 = .ok (.iload_n 3, 1) := by decide +kernel
theorem dX2_append_10 : decode cX2_append 10 = .ok (.iload_n 1, 1) := by decide +kernel
theorem dX2_append_11 : decode cX2_append 11 = .ok (.iastore, 1) := by decide +kernel
theorem dX2_append_12 : decode cX2_append 12 = .ok (.aload_n 0, 1) := by decide +kernel
theorem dX2_append_13 : decode cX2_append 13 = .ok (.getfield 15, 3) := by decide +kernel
theorem dX2_append_16 : decode cX2_append 16 = .ok (.iload_n 3, 1) := by decide +kernel
theorem dX2_append_17 : decode cX2_append 17 = .ok (.iload_n 2, 1) := by decide +kernel
theorem dX2_append_18 : decode cX2_append 18 = .ok (.iastore, 1) := by decide +kernel
theorem dX2_append_19 : decode cX2_append 19 = .ok (.aload_n 0, 1) := by decide +kernel
theorem dX2_append_20 : decode cX2_append 20 = .ok (.iload_n 3, 1) := by decide +kernel
theorem dX2_append_21 : decode cX2_append 21 = .ok (.iconst 1, 1) := by decide +kernel
theorem dX2_append_22 : decode cX2_append 22 = .ok (.iadd, 1) := by decide +kernel
theorem dX2_append_23 : decode cX2_append 23 = .ok (.putfield 18, 3) := by decide +kernel
theorem dX2_append_26 : decode cX2_append 26 = .ok (.iload_n 3, 1) := by decide +kernel
theorem dX2_append_27 : decode cX2_append 27 = .ok (.ireturn, 1) := by decide +kernel
theorem dX3_init_0 : decode cX3_init 0 = .ok (.aload_n 0, 1) := by decide +kernel
theorem dX3_init_1 : decode cX3_init 1 = .ok (.invokespecial 3, 3) := by decide +kernel
theorem dX3_init_4 : decode cX3_init 4 = .ok (.aload_n 0, 1) := by decide +kernel
theorem dX3_init_5 : decode cX3_init 5 = .ok (.iload_n 1, 1) := by decide +kernel
theorem dX3_init_6 : decode cX3_init 6 = .ok (.newarray .int, 2) := by decide +kernel
theorem dX3_init_8 : decode cX3_init 8 = .ok (.putfield 9, 3) := by decide +kernel
theorem dX3_init_11 : decode cX3_init 11 = .ok (.aload_n 0, 1) := by decide +kernel
theorem dX3_init_12 : decode cX3_init 12 = .ok (.iload_n 1, 1) := by decide +kernel
theorem dX3_init_13 : decode cX3_init 13 = .ok (.newarray .int, 2) := by decide +kernel
theorem dX3_init_15 : decode cX3_init 15 = .ok (.putfield 15, 3) := by decide +kernel
theorem dX3_init_18 : decode cX3_init 18 = .ok (.aload_n 0, 1) := by decide +kernel
theorem dX3_init_19 : decode cX3_init 19 = .ok (.bipush 24, 2) := by decide +kernel
theorem dX3_init_21 : decode cX3_init 21 = .ok (.newarray .int, 2) := by decide +kernel
theorem dX3_init_23 : decode cX3_init 23 = .ok (.putfield 18, 3) := by decide +kernel
theorem dX3_init_26 : decode cX3_init 26 = .ok (.return_, 1) := by decide +kernel
theorem dX3_doAll_0 : decode cX3_doAll 0 = .ok (.aload_n 0, 1) := by decide +kernel
theorem dX3_doAll_1 : decode cX3_doAll 1 = .ok (.iconst 1, 1) := by decide +kernel
theorem dX3_doAll_2 : decode cX3_doAll 2 = .ok (.putfield 21, 3) := by decide +kernel
theorem dX3_doAll_5 : decode cX3_doAll 5 = .ok (.aload_n 0, 1) := by decide +kernel
theorem dX3_doAll_6 : decode cX3_doAll 6 = .ok (.iconst 0, 1) := by decide +kernel
theorem dX3_doAll_7 : decode cX3_doAll 7 = .ok (.putfield 25, 3) := by decide +kernel
theorem dX3_doAll_10 : decode cX3_doAll 10 = .ok (.iconst 0, 1) := by decide +kernel
theorem dX3_doAll_11 : decode cX3_doAll 11 = .ok (.istore_n 2, 1) := by decide +kernel
theorem dX3_doAll_12 : decode cX3_doAll 12 = .ok (.iload_n 2, 1) := by decide +kernel
theorem dX3_doAll_13 : decode cX3_doAll 13 = .ok (.aload_n 1, 1) := by decide +kernel
theorem dX3_doAll_14 : decode cX3_doAll 14 = .ok (.getfield 29, 3) := by decide +kernel
theorem dX3_doAll_17 : decode cX3_doAll 17 = .ok (.if_icmp .ge 48, 3) := by decide +kernel
theorem dX3_doAll_20 : decode cX3_doAll 20 = .ok (.aload_n 0, 1) := by decide +kernel
theorem dX3_doAll_21 : decode cX3_doAll 21 = .ok (.getfield 9, 3) := by decide +kernel
theorem dX3_doAll_24 : decode cX3_doAll 24 = .ok (.iload_n 2, 1) := by decide +kernel
theorem dX3_doAll_25 : decode cX3_doAll 25 = .ok (.aload_n 1, 1) := by decide +kernel
theorem dX3_doAll_26 : decode cX3_doAll 26 = .ok (.iload_n 2, 1) := by decide +kernel
theorem dX3_doAll_27 : decode cX3_doAll 27 = .ok (.invokevirtual 34, 3) := by decide +kernel
theorem dX3_doAll_30 : decode cX3_doAll 30 = .ok (.iastore, 1) := by decide +kernel
theorem dX3_doAll_31 : decode cX3_doAll 31 = .ok (.aload_n 0, 1) := by decide +kernel
theorem dX3_doAll_32 : decode cX3_doAll 32 = .ok (.getfield 15, 3) := by decide +kernel
theorem dX3_doAll_35 : decode cX3_doAll 35 = .ok (.iload_n 2, 1) := by decide +kernel
theorem dX3_doAll_36 : decode cX3_doAll 36 = .ok (.aload_n 1, 1) := by decide +kernel
theorem dX3_doAll_37 : decode cX3_doAll 37 = .ok (.getfield 38, 3) := by decide +kernel
theorem dX3_doAll_40 : decode cX3_doAll 40 = .ok (.iload_n 2, 1) := by decide +kernel
theorem dX3_doAll_41 : decode cX3_doAll 41 = .ok (.iaload, 1) := by decide +kernel
theorem dX3_doAll_42 : decode cX3_doAll 42 = .ok (.iconst 1, 1) := by decide +kernel
theorem dX3_doAll_43 : decode cX3_doAll 43 = .ok (.iadd, 1) := by decide +kernel
theorem dX3_doAll_44 : decode cX3_doAll 44 = .ok (.iastore, 1) := by decide +kernel
theorem dX3_doAll_45 : decode cX3_doAll 45 = .ok (.aload_n 0, 1) := by decide +kernel
theorem dX3_doAll_46 : decode cX3_doAll 46 = .ok (.dup, 1) := by decide +kernel
theorem dX3_doAll_47 : decode cX3_doAll 47 = .ok (.getfield 25, 3) := by decide +kernel
theorem dX3_doAll_50 : decode cX3_doAll 50 = .ok (.aload_n 1, 1) := by decide +kernel
theorem dX3_doAll_51 : decode cX3_doAll 51 = .ok (.iload_n 2, 1) := by decide +kernel
theorem dX3_doAll_52 : decode cX3_doAll 52 = .ok (.invokevirtual 41, 3) := by decide +kernel
theorem dX3_doAll_55 : decode cX3_doAll 55 = .ok (.iadd, 1) := by decide +kernel
theorem dX3_doAll_56 : decode cX3_doAll 56 = .ok (.putfield 25, 3) := by decide +kernel
theorem dX3_doAll_59 : decode cX3_doAll 59 = .ok (.iinc 2 1, 3) := by decide +kernel
theorem dX3_doAll_62 : decode cX3_doAll 62 = .ok (.goto (-50), 3) := by decide +kernel
theorem dX3_doAll_65 : decode cX3_doAll 65 = .ok (.return_, 1) := by decide +kernel
theorem dX3_joinAll_0 : decode cX3_joinAll 0 = .ok (.aload_n 0, 1) := by decide +kernel
theorem dX3_joinAll_1 : decode cX3_joinAll 1 = .ok (.lconst 0, 1) := by decide +kernel
theorem dX3_joinAll_2 : decode cX3_joinAll 2 = .ok (.putfield 44, 3) := by decide +kernel
theorem dX3_joinAll_5 : decode cX3_joinAll 5 = .ok (.aload_n 0, 1) := by decide +kernel
theorem dX3_joinAll_6 : decode cX3_joinAll 6 = .ok (.iconst 0, 1) := by decide +kernel
theorem dX3_joinAll_7 : decode cX3_joinAll 7 = .ok (.putfield 48, 3) := by decide +kernel
theorem dX3_joinAll_10 : decode cX3_joinAll 10 = .ok (.aload_n 0, 1) := by decide +kernel
theorem dX3_joinAll_11 : decode cX3_joinAll 11 = .ok (.getfield 18, 3) := by decide +kernel
theorem dX3_joinAll_14 : decode cX3_joinAll 14 = .ok (.iconst (-1), 1) := by decide +kernel
theorem dX3_joinAll_15 : decode cX3_joinAll 15 = .ok (.invokestatic 51, 3) := by decide +kernel
theorem dX3_joinAll_18 : decode cX3_joinAll 18 = .ok (.iconst 0, 1) := by decide +kernel
theorem dX3_joinAll_19 : decode cX3_joinAll 19 = .ok (.istore 4, 2) := by decide +kernel
theorem dX3_joinAll_21 : decode cX3_joinAll 21 = .ok (.iload 4, 2) := by decide +kernel
theorem dX3_joinAll_23 : decode cX3_joinAll 23 = .ok (.aload_n 1, 1) := by decide +kernel
theorem dX3_joinAll_24 : decode cX3_joinAll 24 = .ok (.getfield 29, 3) := by decide +kernel
theorem dX3_joinAll_27 : decode cX3_joinAll 27 = .ok (.if_icmp .ge 74, 3) := by decide +kernel
theorem dX3_joinAll_30 : decode cX3_joinAll 30 = .ok (.iload 4, 2) := by decide +kernel
theorem dX3_joinAll_32 : decode cX3_joinAll 32 = .ok (.iload_n 3, 1) := by decide +kernel
theorem dX3_joinAll_33 : decode cX3_joinAll 33 = .ok (.if_icmp .ne 5, 3) := by decide +kernel
theorem dX3_joinAll_36 : decode cX3_joinAll 36 = .ok (.iconst (-1), 1) := by decide +kernel
theorem dX3_joinAll_37 : decode cX3_joinAll 37 = .ok (.ireturn, 1) := by decide +kernel
theorem dX3_joinAll_38 : decode cX3_joinAll 38 = .ok (.aload_n 0, 1) := by decide +kernel
theorem dX3_joinAll_39 : decode cX3_joinAll 39 = .ok (.aload_n 2, 1) := by decide +kernel
theorem dX3_joinAll_40 : decode cX3_joinAll 40 = .ok (.iload 4, 2) := by decide +kernel
theorem dX3_joinAll_42 : decode cX3_joinAll 42 = .ok (.invokevirtual 57, 3) := by decide +kernel
theorem dX3_joinAll_45 : decode cX3_joinAll 45 = .ok (.aload_n 0, 1) := by decide +kernel
theorem dX3_joinAll_46 : decode cX3_joinAll 46 = .ok (.ldc2_w 61, 3) := by decide +kernel
theorem dX3_joinAll_49 : decode cX3_joinAll 49 = .ok (.aload_n 0, 1) := by decide +kernel
theorem dX3_joinAll_50 : decode cX3_joinAll 50 = .ok (.getfield 44, 3) := by decide +kernel
theorem dX3_joinAll_53 : decode cX3_joinAll 53 = .ok (.lmul, 1) := by decide +kernel
theorem dX3_joinAll_54 : decode cX3_joinAll 54 = .ok (.aload_n 0, 1) := by decide +kernel
theorem dX3_joinAll_55 : decode cX3_joinAll 55 = .ok (.getfield 9, 3) := by decide +kernel
theorem dX3_joinAll_58 : decode cX3_joinAll 58 = .ok (.iload 4, 2) := by decide +kernel
theorem dX3_joinAll_60 : decode cX3_joinAll 60 = .ok (.iaload, 1) := by decide +kernel
theorem dX3_joinAll_61 : decode cX3_joinAll 61 = .ok (.i2l, 1) := by decide +kernel
theorem dX3_joinAll_62 : decode cX3_joinAll 62 = .ok (.ladd, 1) := by decide +kernel
theorem dX3_joinAll_63 : decode cX3_joinAll 63 = .ok (.putfield 44, 3) := by decide +kernel
theorem dX3_joinAll_66 : decode cX3_joinAll 66 = .ok (.aload_n 0, 1) := by decide +kernel
theorem dX3_joinAll_67 : decode cX3_joinAll 67 = .ok (.dup, 1) := by decide +kernel
theorem dX3_joinAll_68 : decode cX3_joinAll 68 = .ok (.getfield 48, 3) := by decide +kernel
theorem dX3_joinAll_71 : decode cX3_joinAll 71 = .ok (.iconst 1, 1) := by decide +kernel
theorem dX3_joinAll_72 : decode cX3_joinAll 72 = .ok (.iadd, 1) := by decide +kernel
theorem dX3_joinAll_73 : decode cX3_joinAll 73 = .ok (.putfield 48, 3) := by decide +kernel
theorem dX3_joinAll_76 : decode cX3_joinAll 76 = .ok (.aload_n 1, 1) := by decide +kernel
theorem dX3_joinAll_77 : decode cX3_joinAll 77 = .ok (.iload 4, 2) := by decide +kernel
theorem dX3_joinAll_79 : decode cX3_joinAll 79 = .ok (.aload_n 0, 1) := by decide +kernel
theorem dX3_joinAll_80 : decode cX3_joinAll 80 = .ok (.getfield 9, 3) := by decide +kernel
theorem dX3_joinAll_83 : decode cX3_joinAll 83 = .ok (.iload 4, 2) := by decide +kernel
theorem dX3_joinAll_85 : decode cX3_joinAll 85 = .ok (.iaload, 1) := by decide +kernel
theorem dX3_joinAll_86 : decode cX3_joinAll 86 = .ok (.invokevirtual 63, 3) := by decide +kernel
theorem dX3_joinAll_89 : decode cX3_joinAll 89 = .ok (.ifCond .eq 6, 3) := by decide +kernel
theorem dX3_joinAll_92 : decode cX3_joinAll 92 = .ok (.iload 4, 2) := by decide +kernel
theorem dX3_joinAll_94 : decode cX3_joinAll 94 = .ok (.ireturn, 1) := by decide +kernel
theorem dX3_joinAll_95 : decode cX3_joinAll 95 = .ok (.iinc 4 1, 3) := by decide +kernel
theorem dX3_joinAll_98 : decode cX3_joinAll 98 = .ok (.goto (-77), 3) := by decide +kernel
theorem dX3_joinAll_101 : decode cX3_joinAll 101 = .ok (.aload_n 0, 1) := by decide +kernel
theorem dX3_joinAll_102 : decode cX3_joinAll 102 = .ok (.aload_n 2, 1) := by decide +kernel
theorem dX3_joinAll_103 : decode cX3_joinAll 103 = .ok (.aload_n 1, 1) := by decide +kernel
theorem dX3_joinAll_104 : decode cX3_joinAll 104 = .ok (.getfield 29, 3) := by decide +kernel
theorem dX3_joinAll_107 : decode cX3_joinAll 107 = .ok (.invokevirtual 57, 3) := by decide +kernel
theorem dX3_joinAll_110 : decode cX3_joinAll 110 = .ok (.iconst (-1), 1) := by decide +kernel
theorem dX3_joinAll_111 : decode cX3_joinAll 111 = .ok (.ireturn, 1) := by decide +kernel
theorem dX3_letIn_0 : decode cX3_letIn 0 = .ok (.iconst 0, 1) := by decide +kernel
theorem dX3_letIn_1 : decode cX3_letIn 1 = .ok (.istore_n 3, 1) := by decide +kernel
theorem dX3_letIn_2 : decode cX3_letIn 2 = .ok (.iload_n 3, 1) := by decide +kernel
theorem dX3_letIn_3 : decode cX3_letIn 3 = .ok (.aload_n 1, 1) := by decide +kernel
theorem dX3_letIn_4 : decode cX3_letIn 4 = .ok (.getfield 67, 3) := by decide +kernel
theorem dX3_letIn_7 : decode cX3_letIn 7 = .ok (.if_icmp .ge 46, 3) := by decide +kernel
theorem dX3_letIn_10 : decode cX3_letIn 10 = .ok (.aload_n 1, 1) := by decide +kernel
theorem dX3_letIn_11 : decode cX3_letIn 11 = .ok (.getfield 70, 3) := by decide +kernel
theorem dX3_letIn_14 : decode cX3_letIn 14 = .ok (.iload_n 3, 1) := by decide +kernel
theorem dX3_letIn_15 : decode cX3_letIn 15 = .ok (.iaload, 1) := by decide +kernel
theorem dX3_letIn_16 : decode cX3_letIn 16 = .ok (.iload_n 2, 1) := by decide +kernel
theorem dX3_letIn_17 : decode cX3_letIn 17 = .ok (.if_icmp .ne 30, 3) := by decide +kernel
theorem dX3_letIn_20 : decode cX3_letIn 20 = .ok (.aload_n 0, 1) := by decide +kernel
theorem dX3_letIn_21 : decode cX3_letIn 21 = .ok (.ldc2_w 73, 3) := by decide +kernel
theorem dX3_letIn_24 : decode cX3_letIn 24 = .ok (.aload_n 0, 1) := by decide +kernel
theorem dX3_letIn_25 : decode cX3_letIn 25 = .ok (.getfield 44, 3) := by decide +kernel
theorem dX3_letIn_28 : decode cX3_letIn 28 = .ok (.lmul, 1) := by decide +kernel
theorem dX3_letIn_29 : decode cX3_letIn 29 = .ok (.aload_n 1, 1) := by decide +kernel
theorem dX3_letIn_30 : decode cX3_letIn 30 = .ok (.getfield 75, 3) := by decide +kernel
theorem dX3_letIn_33 : decode cX3_letIn 33 = .ok (.iload_n 3, 1) := by decide +kernel
theorem dX3_letIn_34 : decode cX3_letIn 34 = .ok (.iaload, 1) := by decide +kernel
theorem dX3_letIn_35 : decode cX3_letIn 35 = .ok (.i2l, 1) := by decide +kernel
theorem dX3_letIn_36 : decode cX3_letIn 36 = .ok (.ladd, 1) := by decide +kernel
theorem dX3_letIn_37 : decode cX3_letIn 37 = .ok (.putfield 44, 3) := by decide +kernel
theorem dX3_letIn_40 : decode cX3_letIn 40 = .ok (.aload_n 0, 1) := by decide +kernel
theorem dX3_letIn_41 : decode cX3_letIn 41 = .ok (.getfield 18, 3) := by decide +kernel
theorem dX3_letIn_44 : decode cX3_letIn 44 = .ok (.iload_n 3, 1) := by decide +kernel
theorem dX3_letIn_45 : decode cX3_letIn 45 = .ok (.iload_n 2, 1) := by decide +kernel
theorem dX3_letIn_46 : decode cX3_letIn 46 = .ok (.iastore, 1) := by decide +kernel
theorem dX3_letIn_47 : decode cX3_letIn 47 = .ok (.iinc 3 1, 3) := by decide +kernel
theorem dX3_letIn_50 : decode cX3_letIn 50 = .ok (.goto (-48), 3) := by decide +kernel
theorem dX3_letIn_53 : decode cX3_letIn 53 = .ok (.return_, 1) := by decide +kernel
theorem dJ0_fill_0 : decode cJ0_fill 0 = .ok (.iconst 0, 1) := by decide +kernel
theorem dJ0_fill_1 : decode cJ0_fill 1 = .ok (.istore_n 2, 1) := by decide +kernel
theorem dJ0_fill_2 : decode cJ0_fill 2 = .ok (.aload_n 0, 1) := by decide +kernel
theorem dJ0_fill_3 : decode cJ0_fill 3 = .ok (.arraylength, 1) := by decide +kernel
theorem dJ0_fill_4 : decode cJ0_fill 4 = .ok (.istore_n 3, 1) := by decide +kernel
theorem dJ0_fill_5 : decode cJ0_fill 5 = .ok (.iload_n 2, 1) := by decide +kernel
theorem dJ0_fill_6 : decode cJ0_fill 6 = .ok (.iload_n 3, 1) := by decide +kernel
theorem dJ0_fill_7 : decode cJ0_fill 7 = .ok (.if_icmp .ge 13, 3) := by decide +kernel
theorem dJ0_fill_10 : decode cJ0_fill 10 = .ok (.aload_n 0, 1) := by decide +kernel
theorem dJ0_fill_11 : decode cJ0_fill 11 = .ok (.iload_n 2, 1) := by decide +kernel
theorem dJ0_fill_12 : decode cJ0_fill 12 = .ok (.iload_n 1, 1) := by decide +kernel
theorem dJ0_fill_13 : decode cJ0_fill 13 = .ok (.iastore, 1) := by decide +kernel
theorem dJ0_fill_14 : decode cJ0_fill 14 = .ok (.iinc 2 1, 3) := by decide +kernel
theorem dJ0_fill_17 : decode cJ0_fill 17 = .ok (.goto (-12), 3) := by decide +kernel
theorem dJ0_fill_20 : decode cJ0_fill 20 = .ok (.return_, 1) := by decide +kernel
