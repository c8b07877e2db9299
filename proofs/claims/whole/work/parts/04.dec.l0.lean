theorem dL_cell_0 : decode cL_cell 0 = .ok (.iload_n 1, 1) := by decide +kernel
theorem dL_cell_1 : decode cL_cell 1 = .ok (.aload_n 0, 1) := by decide +kernel
theorem dL_cell_2 : decode cL_cell 2 = .ok (.arraylength, 1) := by decide +kernel
theorem dL_cell_3 : decode cL_cell 3 = .ok (.if_icmp .ge 9, 3) := by decide +kernel
theorem dL_cell_6 : decode cL_cell 6 = .ok (.aload_n 0, 1) := by decide +kernel
theorem dL_cell_7 : decode cL_cell 7 = .ok (.iload_n 1, 1) := by decide +kernel
theorem dL_cell_8 : decode cL_cell 8 = .ok (.iaload, 1) := by decide +kernel
theorem dL_cell_9 : decode cL_cell 9 = .ok (.goto 4, 3) := by decide +kernel
theorem dL_cell_12 : decode cL_cell 12 = .ok (.iconst 0, 1) := by decide +kernel
theorem dL_cell_13 : decode cL_cell 13 = .ok (.ireturn, 1) := by decide +kernel
theorem dL_share_0 : decode cL_share 0 = .ok (.aload 5, 2) := by decide +kernel
theorem dL_share_2 : decode cL_share 2 = .ok (.iconst 0, 1) := by decide +kernel
theorem dL_share_3 : decode cL_share 3 = .ok (.aload_n 0, 1) := by decide +kernel
theorem dL_share_4 : decode cL_share 4 = .ok (.iload_n 1, 1) := by decide +kernel
theorem dL_share_5 : decode cL_share 5 = .ok (.iload_n 2, 1) := by decide +kernel
theorem dL_share_6 : decode cL_share 6 = .ok (.iload_n 3, 1) := by decide +kernel
theorem dL_share_7 : decode cL_share 7 = .ok (.iload 4, 2) := by decide +kernel
theorem dL_share_9 : decode cL_share 9 = .ok (.invokevirtual 7, 3) := by decide +kernel
theorem dL_share_12 : decode cL_share 12 = .ok (.i2l, 1) := by decide +kernel
theorem dL_share_13 : decode cL_share 13 = .ok (.lastore, 1) := by decide +kernel
theorem dL_share_14 : decode cL_share 14 = .ok (.goto 11, 3) := by decide +kernel
theorem dL_share_17 : decode cL_share 17 = .ok (.astore 6, 2) := by decide +kernel
theorem dL_share_19 : decode cL_share 19 = .ok (.iconst 1, 1) := by decide +kernel
theorem dL_share_20 : decode cL_share 20 = .ok (.ireturn, 1) := by decide +kernel
theorem dL_share_21 : decode cL_share 21 = .ok (.astore 6, 2) := by decide +kernel
theorem dL_share_23 : decode cL_share 23 = .ok (.iconst 2, 1) := by decide +kernel
theorem dL_share_24 : decode cL_share 24 = .ok (.ireturn, 1) := by decide +kernel
theorem dL_share_25 : decode cL_share 25 = .ok (.iconst 0, 1) := by decide +kernel
theorem dL_share_26 : decode cL_share 26 = .ok (.ireturn, 1) := by decide +kernel
theorem dL_fails_0 : decode cL_fails 0 = .ok (.aload 4, 2) := by decide +kernel
theorem dL_fails_2 : decode cL_fails 2 = .ok (.iconst 0, 1) := by decide +kernel
theorem dL_fails_3 : decode cL_fails 3 = .ok (.aload_n 0, 1) := by decide +kernel
theorem dL_fails_4 : decode cL_fails 4 = .ok (.iload_n 1, 1) := by decide +kernel
theorem dL_fails_5 : decode cL_fails 5 = .ok (.iload_n 2, 1) := by decide +kernel
theorem dL_fails_6 : decode cL_fails 6 = .ok (.iload_n 3, 1) := by decide +kernel
theorem dL_fails_7 : decode cL_fails 7 = .ok (.invokevirtual 17, 3) := by decide +kernel
theorem dL_fails_10 : decode cL_fails 10 = .ok (.i2l, 1) := by decide +kernel
theorem dL_fails_11 : decode cL_fails 11 = .ok (.lastore, 1) := by decide +kernel
theorem dL_fails_12 : decode cL_fails 12 = .ok (.goto 11, 3) := by decide +kernel
theorem dL_fails_15 : decode cL_fails 15 = .ok (.astore 5, 2) := by decide +kernel
theorem dL_fails_17 : decode cL_fails 17 = .ok (.iconst 1, 1) := by decide +kernel
theorem dL_fails_18 : decode cL_fails 18 = .ok (.ireturn, 1) := by decide +kernel
theorem dL_fails_19 : decode cL_fails 19 = .ok (.astore 5, 2) := by decide +kernel
theorem dL_fails_21 : decode cL_fails 21 = .ok (.iconst 2, 1) := by decide +kernel
theorem dL_fails_22 : decode cL_fails 22 = .ok (.ireturn, 1) := by decide +kernel
theorem dL_fails_23 : decode cL_fails 23 = .ok (.iconst 0, 1) := by decide +kernel
theorem dL_fails_24 : decode cL_fails 24 = .ok (.ireturn, 1) := by decide +kernel
theorem dL_act_0 : decode cL_act 0 = .ok (.aload_n 3, 1) := by decide +kernel
theorem dL_act_1 : decode cL_act 1 = .ok (.iconst 0, 1) := by decide +kernel
theorem dL_act_2 : decode cL_act 2 = .ok (.aload_n 0, 1) := by decide +kernel
theorem dL_act_3 : decode cL_act 3 = .ok (.iload_n 1, 1) := by decide +kernel
theorem dL_act_4 : decode cL_act 4 = .ok (.iload_n 2, 1) := by decide +kernel
theorem dL_act_5 : decode cL_act 5 = .ok (.invokevirtual 21, 3) := by decide +kernel
theorem dL_act_8 : decode cL_act 8 = .ok (.i2l, 1) := by decide +kernel
theorem dL_act_9 : decode cL_act 9 = .ok (.lastore, 1) := by decide +kernel
theorem dL_act_10 : decode cL_act 10 = .ok (.goto 11, 3) := by decide +kernel
theorem dL_act_13 : decode cL_act 13 = .ok (.astore 4, 2) := by decide +kernel
theorem dL_act_15 : decode cL_act 15 = .ok (.iconst 1, 1) := by decide +kernel
theorem dL_act_16 : decode cL_act 16 = .ok (.ireturn, 1) := by decide +kernel
theorem dL_act_17 : decode cL_act 17 = .ok (.astore 4, 2) := by decide +kernel
theorem dL_act_19 : decode cL_act 19 = .ok (.iconst 2, 1) := by decide +kernel
theorem dL_act_20 : decode cL_act 20 = .ok (.ireturn, 1) := by decide +kernel
theorem dL_act_21 : decode cL_act 21 = .ok (.iconst 0, 1) := by decide +kernel
theorem dL_act_22 : decode cL_act 22 = .ok (.ireturn, 1) := by decide +kernel
theorem dL_stop_0 : decode cL_stop 0 = .ok (.aload_n 2, 1) := by decide +kernel
theorem dL_stop_1 : decode cL_stop 1 = .ok (.iconst 0, 1) := by decide +kernel
theorem dL_stop_2 : decode cL_stop 2 = .ok (.aload_n 0, 1) := by decide +kernel
theorem dL_stop_3 : decode cL_stop 3 = .ok (.iload_n 1, 1) := by decide +kernel
theorem dL_stop_4 : decode cL_stop 4 = .ok (.invokevirtual 27, 3) := by decide +kernel
theorem dL_stop_7 : decode cL_stop 7 = .ok (.i2l, 1) := by decide +kernel
theorem dL_stop_8 : decode cL_stop 8 = .ok (.lastore, 1) := by decide +kernel
theorem dL_stop_9 : decode cL_stop 9 = .ok (.goto 6, 3) := by decide +kernel
theorem dL_stop_12 : decode cL_stop 12 = .ok (.astore_n 3, 1) := by decide +kernel
theorem dL_stop_13 : decode cL_stop 13 = .ok (.iconst 1, 1) := by decide +kernel
theorem dL_stop_14 : decode cL_stop 14 = .ok (.ireturn, 1) := by decide +kernel
theorem dL_stop_15 : decode cL_stop 15 = .ok (.iconst 0, 1) := by decide +kernel
theorem dL_stop_16 : decode cL_stop 16 = .ok (.ireturn, 1) := by decide +kernel
theorem dL_run_0 : decode cL_run 0 = .ok (.aload_n 3, 1) := by decide +kernel
theorem dL_run_1 : decode cL_run 1 = .ok (.iconst 0, 1) := by decide +kernel
theorem dL_run_2 : decode cL_run 2 = .ok (.aload_n 0, 1) := by decide +kernel
theorem dL_run_3 : decode cL_run 3 = .ok (.iload_n 1, 1) := by decide +kernel
theorem dL_run_4 : decode cL_run 4 = .ok (.iload_n 2, 1) := by decide +kernel
theorem dL_run_5 : decode cL_run 5 = .ok (.invokevirtual 31, 3) := by decide +kernel
theorem dL_run_8 : decode cL_run 8 = .ok (.i2l, 1) := by decide +kernel
theorem dL_run_9 : decode cL_run 9 = .ok (.lastore, 1) := by decide +kernel
theorem dL_run_10 : decode cL_run 10 = .ok (.goto 7, 3) := by decide +kernel
theorem dL_run_13 : decode cL_run 13 = .ok (.astore 4, 2) := by decide +kernel
theorem dL_run_15 : decode cL_run 15 = .ok (.iconst 1, 1) := by decide +kernel
theorem dL_run_16 : decode cL_run 16 = .ok (.ireturn, 1) := by decide +kernel
theorem dL_run_17 : decode cL_run 17 = .ok (.iconst 0, 1) := by decide +kernel
theorem dL_run_18 : decode cL_run 18 = .ok (.ireturn, 1) := by decide +kernel
theorem dL_joined_0 : decode cL_joined 0 = .ok (.aload_n 1, 1) := by decide +kernel
theorem dL_joined_1 : decode cL_joined 1 = .ok (.iconst 0, 1) := by decide +kernel
theorem dL_joined_2 : decode cL_joined 2 = .ok (.aload_n 0, 1) := by decide +kernel
theorem dL_joined_3 : decode cL_joined 3 = .ok (.invokevirtual 34, 3) := by decide +kernel
theorem dL_joined_6 : decode cL_joined 6 = .ok (.lastore, 1) := by decide +kernel
theorem dL_joined_7 : decode cL_joined 7 = .ok (.goto 6, 3) := by decide +kernel
theorem dL_joined_10 : decode cL_joined 10 = .ok (.astore_n 2, 1) := by decide +kernel
theorem dL_joined_11 : decode cL_joined 11 = .ok (.iconst 1, 1) := by decide +kernel
theorem dL_joined_12 : decode cL_joined 12 = .ok (.ireturn, 1) := by decide +kernel
theorem dL_joined_13 : decode cL_joined 13 = .ok (.iconst 0, 1) := by decide +kernel
theorem dL_joined_14 : decode cL_joined 14 = .ok (.ireturn, 1) := by decide +kernel
theorem dL_many_0 : decode cL_many 0 = .ok (.aload_n 1, 1) := by decide +kernel
theorem dL_many_1 : decode cL_many 1 = .ok (.iconst 0, 1) := by decide +kernel
theorem dL_many_2 : decode cL_many 2 = .ok (.aload_n 0, 1) := by decide +kernel
theorem dL_many_3 : decode cL_many 3 = .ok (.invokevirtual 38, 3) := by decide +kernel
theorem dL_many_6 : decode cL_many 6 = .ok (.i2l, 1) := by decide +kernel
theorem dL_many_7 : decode cL_many 7 = .ok (.lastore, 1) := by decide +kernel
theorem dL_many_8 : decode cL_many 8 = .ok (.goto 6, 3) := by decide +kernel
theorem dL_many_11 : decode cL_many 11 = .ok (.astore_n 2, 1) := by decide +kernel
theorem dL_many_12 : decode cL_many 12 = .ok (.iconst 1, 1) := by decide +kernel
theorem dL_many_13 : decode cL_many 13 = .ok (.ireturn, 1) := by decide +kernel
theorem dL_many_14 : decode cL_many 14 = .ok (.iconst 0, 1) := by decide +kernel
theorem dL_many_15 : decode cL_many 15 = .ok (.ireturn, 1) := by decide +kernel
theorem dL_value_0 : decode cL_value 0 = .ok (.aload_n 2, 1) := by decide +kernel
theorem dL_value_1 : decode cL_value 1 = .ok (.iconst 0, 1) := by decide +kernel
theorem dL_value_2 : decode cL_value 2 = .ok (.aload_n 0, 1) := by decide +kernel
theorem dL_value_3 : decode cL_value 3 = .ok (.iload_n 1, 1) := by decide +kernel
theorem dL_value_4 : decode cL_value 4 = .ok (.invokevirtual 42, 3) := by decide +kernel
theorem dL_value_7 : decode cL_value 7 = .ok (.i2l, 1) := by decide +kernel
theorem dL_value_8 : decode cL_value 8 = .ok (.lastore, 1) := by decide +kernel
theorem dL_value_9 : decode cL_value 9 = .ok (.goto 9, 3) := by decide +kernel
theorem dL_value_12 : decode cL_value 12 = .ok (.astore_n 3, 1) := by decide +kernel
theorem dL_value_13 : decode cL_value 13 = .ok (.iconst 1, 1) := by decide +kernel
theorem dL_value_14 : decode cL_value 14 = .ok (.ireturn, 1) := by decide +kernel
theorem dL_value_15 : decode cL_value 15 = .ok (.astore_n 3, 1) := by decide +kernel
theorem dL_value_16 : decode cL_value 16 = .ok (.iconst 2, 1) := by decide +kernel
theorem dL_value_17 : decode cL_value 17 = .ok (.ireturn, 1) := by decide +kernel
theorem dL_value_18 : decode cL_value 18 = .ok (.iconst 0, 1) := by decide +kernel
theorem dL_value_19 : decode cL_value 19 = .ok (.ireturn, 1) := by decide +kernel
theorem dL_chain_0 : decode cL_chain 0 = .ok (.aload_n 3, 1) := by decide +kernel
theorem dL_chain_1 : decode cL_chain 1 = .ok (.iconst 0, 1) := by decide +kernel
theorem dL_chain_2 : decode cL_chain 2 = .ok (.aload_n 0, 1) := by decide +kernel
theorem dL_chain_3 : decode cL_chain 3 = .ok (.iload_n 1, 1) := by decide +kernel
theorem dL_chain_4 : decode cL_chain 4 = .ok (.iload_n 2, 1) := by decide +kernel
theorem dL_chain_5 : decode cL_chain 5 = .ok (.invokevirtual 45, 3) := by decide +kernel
theorem dL_chain_8 : decode cL_chain 8 = .ok (.lastore, 1) := by decide +kernel
theorem dL_chain_9 : decode cL_chain 9 = .ok (.goto 7, 3) := by decide +kernel
theorem dL_chain_12 : decode cL_chain 12 = .ok (.astore 4, 2) := by decide +kernel
theorem dL_chain_14 : decode cL_chain 14 = .ok (.iconst 1, 1) := by decide +kernel
theorem dL_chain_15 : decode cL_chain 15 = .ok (.ireturn, 1) := by decide +kernel
theorem dL_chain_16 : decode cL_chain 16 = .ok (.iconst 0, 1) := by decide +kernel
theorem dL_chain_17 : decode cL_chain 17 = .ok (.ireturn, 1) := by decide +kernel
theorem dL_came_0 : decode cL_came 0 = .ok (.aload_n 2, 1) := by decide +kernel
theorem dL_came_1 : decode cL_came 1 = .ok (.iconst 0, 1) := by decide +kernel
theorem dL_came_2 : decode cL_came 2 = .ok (.aload_n 0, 1) := by decide +kernel
theorem dL_came_3 : decode cL_came 3 = .ok (.iload_n 1, 1) := by decide +kernel
theorem dL_came_4 : decode cL_came 4 = .ok (.invokevirtual 49, 3) := by decide +kernel
theorem dL_came_7 : decode cL_came 7 = .ok (.i2l, 1) := by decide +kernel
theorem dL_came_8 : decode cL_came 8 = .ok (.lastore, 1) := by decide +kernel
theorem dL_came_9 : decode cL_came 9 = .ok (.goto 9, 3) := by decide +kernel
theorem dL_came_12 : decode cL_came 12 = .ok (.astore_n 3, 1) := by decide +kernel
theorem dL_came_13 : decode cL_came 13 = .ok (.iconst 1, 1) := by decide +kernel
theorem dL_came_14 : decode cL_came 14 = .ok (.ireturn, 1) := by decide +kernel
theorem dL_came_15 : decode cL_came 15 = .ok (.astore_n 3, 1) := by decide +kernel
theorem dL_came_16 : decode cL_came 16 = .ok (.iconst 2, 1) := by decide +kernel
theorem dL_came_17 : decode cL_came 17 = .ok (.ireturn, 1) := by decide +kernel
theorem dL_came_18 : decode cL_came 18 = .ok (.iconst 0, 1) := by decide +kernel
theorem dL_came_19 : decode cL_came 19 = .ok (.ireturn, 1) := by decide +kernel
theorem dL_begun_0 : decode cL_begun 0 = .ok (.aload_n 2, 1) := by decide +kernel
theorem dL_begun_1 : decode cL_begun 1 = .ok (.iconst 0, 1) := by decide +kernel
theorem dL_begun_2 : decode cL_begun 2 = .ok (.aload_n 0, 1) := by decide +kernel
theorem dL_begun_3 : decode cL_begun 3 = .ok (.iload_n 1, 1) := by decide +kernel
theorem dL_begun_4 : decode cL_begun 4 = .ok (.invokevirtual 52, 3) := by decide +kernel
theorem dL_begun_7 : decode cL_begun 7 = .ok (.i2l, 1) := by decide +kernel
theorem dL_begun_8 : decode cL_begun 8 = .ok (.lastore, 1) := by decide +kernel
theorem dL_begun_9 : decode cL_begun 9 = .ok (.goto 9, 3) := by decide +kernel
theorem dL_begun_12 : decode cL_begun 12 = .ok (.astore_n 3, 1) := by decide +kernel
theorem dL_begun_13 : decode cL_begun 13 = .ok (.iconst 1, 1) := by decide +kernel
theorem dL_begun_14 : decode cL_begun 14 = .ok (.ireturn, 1) := by decide +kernel
theorem dL_begun_15 : decode cL_begun 15 = .ok (.astore_n 3, 1) := by decide +kernel
theorem dL_begun_16 : decode cL_begun 16 = .ok (.iconst 2, 1) := by decide +kernel
theorem dL_begun_17 : decode cL_begun 17 = .ok (.ireturn, 1) := by decide +kernel
theorem dL_begun_18 : decode cL_begun 18 = .ok (.iconst 0, 1) := by decide +kernel
theorem dL_begun_19 : decode cL_begun 19 = .ok (.ireturn, 1) := by decide +kernel
theorem dL_steps_0 : decode cL_steps 0 = .ok (.aload_n 2, 1) := by decide +kernel
theorem dL_steps_1 : decode cL_steps 1 = .ok (.iconst 0, 1) := by decide +kernel
theorem dL_steps_2 : decode cL_steps 2 = .ok (.aload_n 0, 1) := by decide +kernel
theorem dL_steps_3 : decode cL_steps 3 = .ok (.iload_n 1, 1) := by decide +kernel
theorem dL_steps_4 : decode cL_steps 4 = .ok (.invokevirtual 55, 3) := by decide +kernel
theorem dL_steps_7 : decode cL_steps 7 = .ok (.i2l, 1) := by decide +kernel
theorem dL_steps_8 : decode cL_steps 8 = .ok (.lastore, 1) := by decide +kernel
theorem dL_steps_9 : decode cL_steps 9 = .ok (.goto 9, 3) := by decide +kernel
theorem dL_steps_12 : decode cL_steps 12 = .ok (.astore_n 3, 1) := by decide +kernel
theorem dL_steps_13 : decode cL_steps 13 = .ok (.iconst 1, 1) := by decide +kernel
theorem dL_steps_14 : decode cL_steps 14 = .ok (.ireturn, 1) := by decide +kernel
theorem dL_steps_15 : decode cL_steps 15 = .ok (.astore_n 3, 1) := by decide +kernel
theorem dL_steps_16 : decode cL_steps 16 = .ok (.iconst 2, 1) := by decide +kernel
theorem dL_steps_17 : decode cL_steps 17 = .ok (.ireturn, 1) := by decide +kernel
theorem dL_steps_18 : decode cL_steps 18 = .ok (.iconst 0, 1) := by decide +kernel
theorem dL_steps_19 : decode cL_steps 19 = .ok (.ireturn, 1) := by decide +kernel
theorem dL_count_0 : decode cL_count 0 = .ok (.aload_n 2, 1) := by decide +kernel
theorem dL_count_1 : decode cL_count 1 = .ok (.iconst 0, 1) := by decide +kernel
theorem dL_count_2 : decode cL_count 2 = .ok (.aload_n 0, 1) := by decide +kernel
theorem dL_count_3 : decode cL_count 3 = .ok (.iload_n 1, 1) := by decide +kernel
theorem dL_count_4 : decode cL_count 4 = .ok (.invokevirtual 58, 3) := by decide +kernel
theorem dL_count_7 : decode cL_count 7 = .ok (.i2l, 1) := by decide +kernel
theorem dL_count_8 : decode cL_count 8 = .ok (.lastore, 1) := by decide +kernel
theorem dL_count_9 : decode cL_count 9 = .ok (.goto 6, 3) := by decide +kernel
theorem dL_count_12 : decode cL_count 12 = .ok (.astore_n 3, 1) := by decide +kernel
theorem dL_count_13 : decode cL_count 13 = .ok (.iconst 1, 1) := by decide +kernel
theorem dL_count_14 : decode cL_count 14 = .ok (.ireturn, 1) := by decide +kernel
theorem dL_count_15 : decode cL_count 15 = .ok (.iconst 0, 1) := by decide +kernel
theorem dL_count_16 : decode cL_count 16 = .ok (.ireturn, 1) := by decide +kernel
theorem dL_law_0 : decode cL_law 0 = .ok (.new 8, 3) := by decide +kernel
theorem dL_law_3 : decode cL_law 3 = .ok (.dup, 1) := by decide +kernel
theorem dL_law_4 : decode cL_law 4 = .ok (.aload_n 0, 1) := by decide +kernel
theorem dL_law_5 : decode cL_law 5 = .ok (.iconst 0, 1) := by decide +kernel
theorem dL_law_6 : decode cL_law 6 = .ok (.invokestatic 61, 3) := by decide +kernel
theorem dL_law_9 : decode cL_law 9 = .ok (.invokespecial 67, 3) := by decide +kernel
theorem dL_law_12 : decode cL_law 12 = .ok (.astore_n 1, 1) := by decide +kernel
theorem dL_law_13 : decode cL_law 13 = .ok (.new 70, 3) := by decide +kernel
theorem dL_law_16 : decode cL_law 16 = .ok (.dup, 1) := by decide +kernel
theorem dL_law_17 : decode cL_law 17 = .ok (.aload_n 0, 1) := by decide +kernel
theorem dL_law_18 : decode cL_law 18 = .ok (.iconst 0, 1) := by decide +kernel
theorem dL_law_19 : decode cL_law 19 = .ok (.invokestatic 61, 3) := by decide +kernel
theorem dL_law_22 : decode cL_law 22 = .ok (.invokespecial 72, 3) := by decide +kernel
theorem dL_law_25 : decode cL_law 25 = .ok (.astore_n 2, 1) := by decide +kernel
theorem dL_law_26 : decode cL_law 26 = .ok (.iconst 1, 1) := by decide +kernel
theorem dL_law_27 : decode cL_law 27 = .ok (.newarray .long, 2) := by decide +kernel
theorem dL_law_29 : decode cL_law 29 = .ok (.astore_n 3, 1) := by decide +kernel
theorem dL_law_30 : decode cL_law 30 = .ok (.iconst 1, 1) := by decide +kernel
theorem dL_law_31 : decode cL_law 31 = .ok (.istore 4, 2) := by decide +kernel
theorem dL_law_33 : decode cL_law 33 = .ok (.iload 4, 2) := by decide +kernel
theorem dL_law_35 : decode cL_law 35 = .ok (.aload_n 0, 1) := by decide +kernel
theorem dL_law_36 : decode cL_law 36 = .ok (.arraylength, 1) := by decide +kernel
theorem dL_law_37 : decode cL_law 37 = .ok (.iconst 5, 1) := by decide +kernel
theorem dL_law_38 : decode cL_law 38 = .ok (.isub, 1) := by decide +kernel
theorem dL_law_39 : decode cL_law 39 = .ok (.if_icmp .gt 881, 3) := by decide +kernel
theorem dL_law_42 : decode cL_law 42 = .ok (.aload_n 0, 1) := by decide +kernel
theorem dL_law_43 : decode cL_law 43 = .ok (.iload 4, 2) := by decide +kernel
theorem dL_law_45 : decode cL_law 45 = .ok (.iaload, 1) := by decide +kernel
theorem dL_law_46 : decode cL_law 46 = .ok (.bipush 15, 2) := by decide +kernel
theorem dL_law_48 : decode cL_law 48 = .ok (.iand, 1) := by decide +kernel
theorem dL_law_49 : decode cL_law 49 = .ok (.tableswitch 865 0 12 #[67, 159, 239, 307, 363, 431, 474, 518, 574, 641, 697, 753, 809], 67) := by decide +kernel
theorem dL_law_116 : decode cL_law 116 = .ok (.aload_n 1, 1) := by decide +kernel
theorem dL_law_117 : decode cL_law 117 = .ok (.aload_n 0, 1) := by decide +kernel
theorem dL_law_118 : decode cL_law 118 = .ok (.iload 4, 2) := by decide +kernel
theorem dL_law_120 : decode cL_law 120 = .ok (.iconst 1, 1) := by decide +kernel
theorem dL_law_121 : decode cL_law 121 = .ok (.iadd, 1) := by decide +kernel
theorem dL_law_122 : decode cL_law 122 = .ok (.iaload, 1) := by decide +kernel
theorem dL_law_123 : decode cL_law 123 = .ok (.aload_n 0, 1) := by decide +kernel
theorem dL_law_124 : decode cL_law 124 = .ok (.iload 4, 2) := by decide +kernel
theorem dL_law_126 : decode cL_law 126 = .ok (.iconst 2, 1) := by decide +kernel
theorem dL_law_127 : decode cL_law 127 = .ok (.iadd, 1) := by decide +kernel
theorem dL_law_128 : decode cL_law 128 = .ok (.iaload, 1) := by decide +kernel
theorem dL_law_129 : decode cL_law 129 = .ok (.aload_n 0, 1) := by decide +kernel
theorem dL_law_130 : decode cL_law 130 = .ok (.iload 4, 2) := by decide +kernel
theorem dL_law_132 : decode cL_law 132 = .ok (.iconst 3, 1) := by decide +kernel
theorem dL_law_133 : decode cL_law 133 = .ok (.iadd, 1) := by decide +kernel
theorem dL_law_134 : decode cL_law 134 = .ok (.iaload, 1) := by decide +kernel
theorem dL_law_135 : decode cL_law 135 = .ok (.aload_n 0, 1) := by decide +kernel
theorem dL_law_136 : decode cL_law 136 = .ok (.iload 4, 2) := by decide +kernel
theorem dL_law_138 : decode cL_law 138 = .ok (.iconst 4, 1) := by decide +kernel
theorem dL_law_139 : decode cL_law 139 = .ok (.iadd, 1) := by decide +kernel
theorem dL_law_140 : decode cL_law 140 = .ok (.iaload, 1) := by decide +kernel
theorem dL_law_141 : decode cL_law 141 = .ok (.aload_n 3, 1) := by decide +kernel
theorem dL_law_142 : decode cL_law 142 = .ok (.invokestatic 73, 3) := by decide +kernel
theorem dL_law_145 : decode cL_law 145 = .ok (.istore 5, 2) := by decide +kernel
theorem dL_law_147 : decode cL_law 147 = .ok (.aload_n 2, 1) := by decide +kernel
theorem dL_law_148 : decode cL_law 148 = .ok (.aload_n 0, 1) := by decide +kernel
theorem dL_law_149 : decode cL_law 149 = .ok (.iload 4, 2) := by decide +kernel
theorem dL_law_151 : decode cL_law 151 = .ok (.iconst 1, 1) := by decide +kernel
theorem dL_law_152 : decode cL_law 152 = .ok (.iadd, 1) := by decide +kernel
theorem dL_law_153 : decode cL_law 153 = .ok (.iaload, 1) := by decide +kernel
theorem dL_law_154 : decode cL_law 154 = .ok (.aload_n 0, 1) := by decide +kernel
theorem dL_law_155 : decode cL_law 155 = .ok (.iload 4, 2) := by decide +kernel
theorem dL_law_157 : decode cL_law 157 = .ok (.iconst 2, 1) := by decide +kernel
theorem dL_law_158 : decode cL_law 158 = .ok (.iadd, 1) := by decide +kernel
theorem dL_law_159 : decode cL_law 159 = .ok (.iaload, 1) := by decide +kernel
theorem dL_law_160 : decode cL_law 160 = .ok (.aload_n 0, 1) := by decide +kernel
theorem dL_law_161 : decode cL_law 161 = .ok (.iload 4, 2) := by decide +kernel
theorem dL_law_163 : decode cL_law 163 = .ok (.iconst 3, 1) := by decide +kernel
theorem dL_law_164 : decode cL_law 164 = .ok (.iadd, 1) := by decide +kernel
theorem dL_law_165 : decode cL_law 165 = .ok (.iaload, 1) := by decide +kernel
theorem dL_law_166 : decode cL_law 166 = .ok (.aload_n 0, 1) := by decide +kernel
theorem dL_law_167 : decode cL_law 167 = .ok (.iload 4, 2) := by decide +kernel
theorem dL_law_169 : decode cL_law 169 = .ok (.iconst 4, 1) := by decide +kernel
theorem dL_law_170 : decode cL_law 170 = .ok (.iadd, 1) := by decide +kernel
theorem dL_law_171 : decode cL_law 171 = .ok (.iaload, 1) := by decide +kernel
theorem dL_law_172 : decode cL_law 172 = .ok (.invokevirtual 76, 3) := by decide +kernel
theorem dL_law_175 : decode cL_law 175 = .ok (.istore 6, 2) := by decide +kernel
theorem dL_law_177 : decode cL_law 177 = .ok (.aload_n 2, 1) := by decide +kernel
theorem dL_law_178 : decode cL_law 178 = .ok (.invokevirtual 77, 3) := by decide +kernel
theorem dL_law_181 : decode cL_law 181 = .ok (.iload 5, 2) := by decide +kernel
theorem dL_law_183 : decode cL_law 183 = .ok (.if_icmp .eq 5, 3) := by decide +kernel
theorem dL_law_186 : decode cL_law 186 = .ok (.iconst 0, 1) := by decide +kernel
theorem dL_law_187 : decode cL_law 187 = .ok (.ireturn, 1) := by decide +kernel
theorem dL_law_188 : decode cL_law 188 = .ok (.iload 5, 2) := by decide +kernel
theorem dL_law_190 : decode cL_law 190 = .ok (.ifCond .ne 15, 3) := by decide +kernel
theorem dL_law_193 : decode cL_law 193 = .ok (.aload_n 3, 1) := by decide +kernel
theorem dL_law_194 : decode cL_law 194 = .ok (.iconst 0, 1) := by decide +kernel
theorem dL_law_195 : decode cL_law 195 = .ok (.laload, 1) := by decide +kernel
theorem dL_law_196 : decode cL_law 196 = .ok (.iload 6, 2) := by decide +kernel
theorem dL_law_198 : decode cL_law 198 = .ok (.i2l, 1) := by decide +kernel
theorem dL_law_199 : decode cL_law 199 = .ok (.lcmp, 1) := by decide +kernel
theorem dL_law_200 : decode cL_law 200 = .ok (.ifCond .eq 5, 3) := by decide +kernel
theorem dL_law_203 : decode cL_law 203 = .ok (.iconst 0, 1) := by decide +kernel
theorem dL_law_204 : decode cL_law 204 = .ok (.ireturn, 1) := by decide +kernel
theorem dL_law_205 : decode cL_law 205 = .ok (.goto 709, 3) := by decide +kernel
theorem dL_law_208 : decode cL_law 208 = .ok (.aload_n 1, 1) := by decide +kernel
theorem dL_law_209 : decode cL_law 209 = .ok (.aload_n 0, 1) := by decide +kernel
theorem dL_law_210 : decode cL_law 210 = .ok (.iload 4, 2) := by decide +kernel
theorem dL_law_212 : decode cL_law 212 = .ok (.iconst 1, 1) := by decide +kernel
theorem dL_law_213 : decode cL_law 213 = .ok (.iadd, 1) := by decide +kernel
theorem dL_law_214 : decode cL_law 214 = .ok (.iaload, 1) := by decide +kernel
theorem dL_law_215 : decode cL_law 215 = .ok (.aload_n 0, 1) := by decide +kernel
theorem dL_law_216 : decode cL_law 216 = .ok (.iload 4, 2) := by decide +kernel
theorem dL_law_218 : decode cL_law 218 = .ok (.iconst 2, 1) := by decide +kernel
theorem dL_law_219 : decode cL_law 219 = .ok (.iadd, 1) := by decide +kernel
theorem dL_law_220 : decode cL_law 220 = .ok (.iaload, 1) := by decide +kernel
theorem dL_law_221 : decode cL_law 221 = .ok (.aload_n 0, 1) := by decide +kernel
theorem dL_law_222 : decode cL_law 222 = .ok (.iload 4, 2) := by decide +kernel
theorem dL_law_224 : decode cL_law 224 = .ok (.iconst 3, 1) := by decide +kernel
theorem dL_law_225 : decode cL_law 225 = .ok (.iadd, 1) := by decide +kernel
theorem dL_law_226 : decode cL_law 226 = .ok (.iaload, 1) := by decide +kernel
theorem dL_law_227 : decode cL_law 227 = .ok (.aload_n 3, 1) := by decide +kernel
theorem dL_law_228 : decode cL_law 228 = .ok (.invokestatic 80, 3) := by decide +kernel
theorem dL_law_231 : decode cL_law 231 = .ok (.istore 5, 2) := by decide +kernel
theorem dL_law_233 : decode cL_law 233 = .ok (.aload_n 2, 1) := by decide +kernel
theorem dL_law_234 : decode cL_law 234 = .ok (.aload_n 0, 1) := by decide +kernel
theorem dL_law_235 : decode cL_law 235 = .ok (.iload 4, 2) := by decide +kernel
theorem dL_law_237 : decode cL_law 237 = .ok (.iconst 1, 1) := by decide +kernel
theorem dL_law_238 : decode cL_law 238 = .ok (.iadd, 1) := by decide +kernel
theorem dL_law_239 : decode cL_law 239 = .ok (.iaload, 1) := by decide +kernel
theorem dL_law_240 : decode cL_law 240 = .ok (.aload_n 0, 1) := by decide +kernel
theorem dL_law_241 : decode cL_law 241 = .ok (.iload 4, 2) := by decide +kernel
theorem dL_law_243 : decode cL_law 243 = .ok (.iconst 2, 1) := by decide +kernel
theorem dL_law_244 : decode cL_law 244 = .ok (.iadd, 1) := by decide +kernel
theorem dL_law_245 : decode cL_law 245 = .ok (.iaload, 1) := by decide +kernel
theorem dL_law_246 : decode cL_law 246 = .ok (.aload_n 0, 1) := by decide +kernel
theorem dL_law_247 : decode cL_law 247 = .ok (.iload 4, 2) := by decide +kernel
theorem dL_law_249 : decode cL_law 249 = .ok (.iconst 3, 1) := by decide +kernel
theorem dL_law_250 : decode cL_law 250 = .ok (.iadd, 1) := by decide +kernel
theorem dL_law_251 : decode cL_law 251 = .ok (.iaload, 1) := by decide +kernel
theorem dL_law_252 : decode cL_law 252 = .ok (.invokevirtual 83, 3) := by decide +kernel
theorem dL_law_255 : decode cL_law 255 = .ok (.istore 6, 2) := by decide +kernel
theorem dL_law_257 : decode cL_law 257 = .ok (.aload_n 2, 1) := by decide +kernel
theorem dL_law_258 : decode cL_law 258 = .ok (.invokevirtual 77, 3) := by decide +kernel
theorem dL_law_261 : decode cL_law 261 = .ok (.iload 5, 2) := by decide +kernel
theorem dL_law_263 : decode cL_law 263 = .ok (.if_icmp .eq 5, 3) := by decide +kernel
theorem dL_law_266 : decode cL_law 266 = .ok (.iconst 0, 1) := by decide +kernel
theorem dL_law_267 : decode cL_law 267 = .ok (.ireturn, 1) := by decide +kernel
theorem dL_law_268 : decode cL_law 268 = .ok (.iload 5, 2) := by decide +kernel
theorem dL_law_270 : decode cL_law 270 = .ok (.ifCond .ne 15, 3) := by decide +kernel
theorem dL_law_273 : decode cL_law 273 = .ok (.aload_n 3, 1) := by decide +kernel
theorem dL_law_274 : decode cL_law 274 = .ok (.iconst 0, 1) := by decide +kernel
theorem dL_law_275 : decode cL_law 275 = .ok (.laload, 1) := by decide +kernel
theorem dL_law_276 : decode cL_law 276 = .ok (.iload 6, 2) := by decide +kernel
theorem dL_law_278 : decode cL_law 278 = .ok (.i2l, 1) := by decide +kernel
theorem dL_law_279 : decode cL_law 279 = .ok (.lcmp, 1) := by decide +kernel
theorem dL_law_280 : decode cL_law 280 = .ok (.ifCond .eq 5, 3) := by decide +kernel
theorem dL_law_283 : decode cL_law 283 = .ok (.iconst 0, 1) := by decide +kernel
theorem dL_law_284 : decode cL_law 284 = .ok (.ireturn, 1) := by decide +kernel
theorem dL_law_285 : decode cL_law 285 = .ok (.goto 629, 3) := by decide +kernel
theorem dL_law_288 : decode cL_law 288 = .ok (.aload_n 1, 1) := by decide +kernel
theorem dL_law_289 : decode cL_law 289 = .ok (.aload_n 0, 1) := by decide +kernel
theorem dL_law_290 : decode cL_law 290 = .ok (.iload 4, 2) := by decide +kernel
theorem dL_law_292 : decode cL_law 292 = .ok (.iconst 1, 1) := by decide +kernel
theorem dL_law_293 : decode cL_law 293 = .ok (.iadd, 1) := by decide +kernel
theorem dL_law_294 : decode cL_law 294 = .ok (.iaload, 1) := by decide +kernel
theorem dL_law_295 : decode cL_law 295 = .ok (.aload_n 0, 1) := by decide +kernel
theorem dL_law_296 : decode cL_law 296 = .ok (.iload 4, 2) := by decide +kernel
theorem dL_law_298 : decode cL_law 298 = .ok (.iconst 2, 1) := by decide +kernel
theorem dL_law_299 : decode cL_law 299 = .ok (.iadd, 1) := by decide +kernel
theorem dL_law_300 : decode cL_law 300 = .ok (.iaload, 1) := by decide +kernel
theorem dL_law_301 : decode cL_law 301 = .ok (.aload_n 3, 1) := by decide +kernel
theorem dL_law_302 : decode cL_law 302 = .ok (.invokestatic 84, 3) := by decide +kernel
theorem dL_law_305 : decode cL_law 305 = .ok (.istore 5, 2) := by decide +kernel
theorem dL_law_307 : decode cL_law 307 = .ok (.aload_n 2, 1) := by decide +kernel
theorem dL_law_308 : decode cL_law 308 = .ok (.aload_n 0, 1) := by decide +kernel
theorem dL_law_309 : decode cL_law 309 = .ok (.iload 4, 2) := by decide +kernel
theorem dL_law_311 : decode cL_law 311 = .ok (.iconst 1, 1) := by decide +kernel
theorem dL_law_312 : decode cL_law 312 = .ok (.iadd, 1) := by decide +kernel
theorem dL_law_313 : decode cL_law 313 = .ok (.iaload, 1) := by decide +kernel
theorem dL_law_314 : decode cL_law 314 = .ok (.aload_n 0, 1) := by decide +kernel
theorem dL_law_315 : decode cL_law 315 = .ok (.iload 4, 2) := by decide +kernel
theorem dL_law_317 : decode cL_law 317 = .ok (.iconst 2, 1) := by decide +kernel
theorem dL_law_318 : decode cL_law 318 = .ok (.iadd, 1) := by decide +kernel
theorem dL_law_319 : decode cL_law 319 = .ok (.iaload, 1) := by decide +kernel
theorem dL_law_320 : decode cL_law 320 = .ok (.invokevirtual 87, 3) := by decide +kernel
theorem dL_law_323 : decode cL_law 323 = .ok (.istore 6, 2) := by decide +kernel
theorem dL_law_325 : decode cL_law 325 = .ok (.aload_n 2, 1) := by decide +kernel
theorem dL_law_326 : decode cL_law 326 = .ok (.invokevirtual 77, 3) := by decide +kernel
theorem dL_law_329 : decode cL_law 329 = .ok (.iload 5, 2) := by decide +kernel
theorem dL_law_331 : decode cL_law 331 = .ok (.if_icmp .eq 5, 3) := by decide +kernel
theorem dL_law_334 : decode cL_law 334 = .ok (.iconst 0, 1) := by decide +kernel
theorem dL_law_335 : decode cL_law 335 = .ok (.ireturn, 1) := by decide +kernel
theorem dL_law_336 : decode cL_law 336 = .ok (.iload 5, 2) := by decide +kernel
theorem dL_law_338 : decode cL_law 338 = .ok (.ifCond .ne 15, 3) := by decide +kernel
theorem dL_law_341 : decode cL_law 341 = .ok (.aload_n 3, 1) := by decide +kernel
theorem dL_law_342 : decode cL_law 342 = .ok (.iconst 0, 1) := by decide +kernel
theorem dL_law_343 : decode cL_law 343 = .ok (.laload, 1) := by decide +kernel
theorem dL_law_344 : decode cL_law 344 = .ok (.iload 6, 2) := by decide +kernel
theorem dL_law_346 : decode cL_law 346 = .ok (.i2l, 1) := by decide +kernel
theorem dL_law_347 : decode cL_law 347 = .ok (.lcmp, 1) := by decide +kernel
theorem dL_law_348 : decode cL_law 348 = .ok (.ifCond .eq 5, 3) := by decide +kernel
theorem dL_law_351 : decode cL_law 351 = .ok (.iconst 0, 1) := by decide +kernel
theorem dL_law_352 : decode cL_law 352 = .ok (.ireturn, 1) := by decide +kernel
theorem dL_law_353 : decode cL_law 353 = .ok (.goto 561, 3) := by decide +kernel
