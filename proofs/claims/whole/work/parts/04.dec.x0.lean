theorem dX0_init_0 : decode cX0_init 0 = .ok (.aload_n 0, 1) := by decide +kernel
theorem dX0_init_1 : decode cX0_init 1 = .ok (.invokespecial 1, 3) := by decide +kernel
theorem dX0_init_4 : decode cX0_init 4 = .ok (.iconst 1, 1) := by decide +kernel
theorem dX0_init_5 : decode cX0_init 5 = .ok (.bipush 40, 2) := by decide +kernel
theorem dX0_init_7 : decode cX0_init 7 = .ok (.iload_n 1, 1) := by decide +kernel
theorem dX0_init_8 : decode cX0_init 8 = .ok (.invokestatic 9, 3) := by decide +kernel
theorem dX0_init_11 : decode cX0_init 11 = .ok (.invokestatic 15, 3) := by decide +kernel
theorem dX0_init_14 : decode cX0_init 14 = .ok (.istore_n 2, 1) := by decide +kernel
theorem dX0_init_15 : decode cX0_init 15 = .ok (.aload_n 0, 1) := by decide +kernel
theorem dX0_init_16 : decode cX0_init 16 = .ok (.new 18, 3) := by decide +kernel
theorem dX0_init_19 : decode cX0_init 19 = .ok (.dup, 1) := by decide +kernel
theorem dX0_init_20 : decode cX0_init 20 = .ok (.iload_n 2, 1) := by decide +kernel
theorem dX0_init_21 : decode cX0_init 21 = .ok (.invokespecial 20, 3) := by decide +kernel
theorem dX0_init_24 : decode cX0_init 24 = .ok (.putfield 23, 3) := by decide +kernel
theorem dX0_init_27 : decode cX0_init 27 = .ok (.aload_n 0, 1) := by decide +kernel
theorem dX0_init_28 : decode cX0_init 28 = .ok (.new 27, 3) := by decide +kernel
theorem dX0_init_31 : decode cX0_init 31 = .ok (.dup, 1) := by decide +kernel
theorem dX0_init_32 : decode cX0_init 32 = .ok (.invokespecial 29, 3) := by decide +kernel
theorem dX0_init_35 : decode cX0_init 35 = .ok (.putfield 30, 3) := by decide +kernel
theorem dX0_init_38 : decode cX0_init 38 = .ok (.aload_n 0, 1) := by decide +kernel
theorem dX0_init_39 : decode cX0_init 39 = .ok (.new 34, 3) := by decide +kernel
theorem dX0_init_42 : decode cX0_init 42 = .ok (.dup, 1) := by decide +kernel
theorem dX0_init_43 : decode cX0_init 43 = .ok (.iload_n 2, 1) := by decide +kernel
theorem dX0_init_44 : decode cX0_init 44 = .ok (.invokespecial 36, 3) := by decide +kernel
theorem dX0_init_47 : decode cX0_init 47 = .ok (.putfield 37, 3) := by decide +kernel
theorem dX0_init_50 : decode cX0_init 50 = .ok (.aload_n 0, 1) := by decide +kernel
theorem dX0_init_51 : decode cX0_init 51 = .ok (.iconst (-1), 1) := by decide +kernel
theorem dX0_init_52 : decode cX0_init 52 = .ok (.putfield 41, 3) := by decide +kernel
theorem dX0_init_55 : decode cX0_init 55 = .ok (.return_, 1) := by decide +kernel
theorem dX0_share_0 : decode cX0_share 0 = .ok (.aload_n 0, 1) := by decide +kernel
theorem dX0_share_1 : decode cX0_share 1 = .ok (.iload_n 1, 1) := by decide +kernel
theorem dX0_share_2 : decode cX0_share 2 = .ok (.invokevirtual 45, 3) := by decide +kernel
theorem dX0_share_5 : decode cX0_share 5 = .ok (.iload_n 2, 1) := by decide +kernel
theorem dX0_share_6 : decode cX0_share 6 = .ok (.iconst 1, 1) := by decide +kernel
theorem dX0_share_7 : decode cX0_share 7 = .ok (.if_icmp .lt 9, 3) := by decide +kernel
theorem dX0_share_10 : decode cX0_share 10 = .ok (.iload_n 2, 1) := by decide +kernel
theorem dX0_share_11 : decode cX0_share 11 = .ok (.bipush 30, 2) := by decide +kernel
theorem dX0_share_13 : decode cX0_share 13 = .ok (.if_icmp .le 13, 3) := by decide +kernel
theorem dX0_share_16 : decode cX0_share 16 = .ok (.new 48, 3) := by decide +kernel
theorem dX0_share_19 : decode cX0_share 19 = .ok (.dup, 1) := by decide +kernel
theorem dX0_share_20 : decode cX0_share 20 = .ok (.ldc 50, 2) := by decide +kernel
theorem dX0_share_22 : decode cX0_share 22 = .ok (.invokespecial 52, 3) := by decide +kernel
theorem dX0_share_25 : decode cX0_share 25 = .ok (.athrow, 1) := by decide +kernel
theorem dX0_share_26 : decode cX0_share 26 = .ok (.iload 4, 2) := by decide +kernel
theorem dX0_share_28 : decode cX0_share 28 = .ok (.ifCond .lt 10, 3) := by decide +kernel
theorem dX0_share_31 : decode cX0_share 31 = .ok (.iload 4, 2) := by decide +kernel
theorem dX0_share_33 : decode cX0_share 33 = .ok (.bipush 8, 2) := by decide +kernel
theorem dX0_share_35 : decode cX0_share 35 = .ok (.if_icmp .le 13, 3) := by decide +kernel
theorem dX0_share_38 : decode cX0_share 38 = .ok (.new 48, 3) := by decide +kernel
theorem dX0_share_41 : decode cX0_share 41 = .ok (.dup, 1) := by decide +kernel
theorem dX0_share_42 : decode cX0_share 42 = .ok (.ldc 55, 2) := by decide +kernel
theorem dX0_share_44 : decode cX0_share 44 = .ok (.invokespecial 52, 3) := by decide +kernel
theorem dX0_share_47 : decode cX0_share 47 = .ok (.athrow, 1) := by decide +kernel
theorem dX0_share_48 : decode cX0_share 48 = .ok (.aload_n 0, 1) := by decide +kernel
theorem dX0_share_49 : decode cX0_share 49 = .ok (.getfield 23, 3) := by decide +kernel
theorem dX0_share_52 : decode cX0_share 52 = .ok (.getfield 57, 3) := by decide +kernel
theorem dX0_share_55 : decode cX0_share 55 = .ok (.iload_n 1, 1) := by decide +kernel
theorem dX0_share_56 : decode cX0_share 56 = .ok (.iaload, 1) := by decide +kernel
theorem dX0_share_57 : decode cX0_share 57 = .ok (.istore 5, 2) := by decide +kernel
theorem dX0_share_59 : decode cX0_share 59 = .ok (.aload_n 0, 1) := by decide +kernel
theorem dX0_share_60 : decode cX0_share 60 = .ok (.getfield 23, 3) := by decide +kernel
theorem dX0_share_63 : decode cX0_share 63 = .ok (.getfield 57, 3) := by decide +kernel
theorem dX0_share_66 : decode cX0_share 66 = .ok (.iload_n 1, 1) := by decide +kernel
theorem dX0_share_67 : decode cX0_share 67 = .ok (.iload_n 2, 1) := by decide +kernel
theorem dX0_share_68 : decode cX0_share 68 = .ok (.iastore, 1) := by decide +kernel
theorem dX0_share_69 : decode cX0_share 69 = .ok (.aload_n 0, 1) := by decide +kernel
theorem dX0_share_70 : decode cX0_share 70 = .ok (.getfield 23, 3) := by decide +kernel
theorem dX0_share_73 : decode cX0_share 73 = .ok (.getfield 61, 3) := by decide +kernel
theorem dX0_share_76 : decode cX0_share 76 = .ok (.iload_n 1, 1) := by decide +kernel
theorem dX0_share_77 : decode cX0_share 77 = .ok (.iload_n 3, 1) := by decide +kernel
theorem dX0_share_78 : decode cX0_share 78 = .ok (.iastore, 1) := by decide +kernel
theorem dX0_share_79 : decode cX0_share 79 = .ok (.aload_n 0, 1) := by decide +kernel
theorem dX0_share_80 : decode cX0_share 80 = .ok (.getfield 23, 3) := by decide +kernel
theorem dX0_share_83 : decode cX0_share 83 = .ok (.getfield 64, 3) := by decide +kernel
theorem dX0_share_86 : decode cX0_share 86 = .ok (.iload_n 1, 1) := by decide +kernel
theorem dX0_share_87 : decode cX0_share 87 = .ok (.iload 4, 2) := by decide +kernel
theorem dX0_share_89 : decode cX0_share 89 = .ok (.iastore, 1) := by decide +kernel
theorem dX0_share_90 : decode cX0_share 90 = .ok (.iload 5, 2) := by decide +kernel
theorem dX0_share_92 : decode cX0_share 92 = .ok (.ireturn, 1) := by decide +kernel
theorem dX0_fails_0 : decode cX0_fails 0 = .ok (.aload_n 0, 1) := by decide +kernel
theorem dX0_fails_1 : decode cX0_fails 1 = .ok (.iload_n 1, 1) := by decide +kernel
theorem dX0_fails_2 : decode cX0_fails 2 = .ok (.invokevirtual 45, 3) := by decide +kernel
theorem dX0_fails_5 : decode cX0_fails 5 = .ok (.iload_n 2, 1) := by decide +kernel
theorem dX0_fails_6 : decode cX0_fails 6 = .ok (.iconst 1, 1) := by decide +kernel
theorem dX0_fails_7 : decode cX0_fails 7 = .ok (.if_icmp .lt 9, 3) := by decide +kernel
theorem dX0_fails_10 : decode cX0_fails 10 = .ok (.iload_n 2, 1) := by decide +kernel
theorem dX0_fails_11 : decode cX0_fails 11 = .ok (.bipush 30, 2) := by decide +kernel
theorem dX0_fails_13 : decode cX0_fails 13 = .ok (.if_icmp .le 13, 3) := by decide +kernel
theorem dX0_fails_16 : decode cX0_fails 16 = .ok (.new 48, 3) := by decide +kernel
theorem dX0_fails_19 : decode cX0_fails 19 = .ok (.dup, 1) := by decide +kernel
theorem dX0_fails_20 : decode cX0_fails 20 = .ok (.ldc 67, 2) := by decide +kernel
theorem dX0_fails_22 : decode cX0_fails 22 = .ok (.invokespecial 52, 3) := by decide +kernel
theorem dX0_fails_25 : decode cX0_fails 25 = .ok (.athrow, 1) := by decide +kernel
theorem dX0_fails_26 : decode cX0_fails 26 = .ok (.iload_n 3, 1) := by decide +kernel
theorem dX0_fails_27 : decode cX0_fails 27 = .ok (.ifCond .lt 8, 3) := by decide +kernel
theorem dX0_fails_30 : decode cX0_fails 30 = .ok (.iload_n 3, 1) := by decide +kernel
theorem dX0_fails_31 : decode cX0_fails 31 = .ok (.iconst 4, 1) := by decide +kernel
theorem dX0_fails_32 : decode cX0_fails 32 = .ok (.if_icmp .le 13, 3) := by decide +kernel
theorem dX0_fails_35 : decode cX0_fails 35 = .ok (.new 48, 3) := by decide +kernel
theorem dX0_fails_38 : decode cX0_fails 38 = .ok (.dup, 1) := by decide +kernel
theorem dX0_fails_39 : decode cX0_fails 39 = .ok (.ldc 69, 2) := by decide +kernel
theorem dX0_fails_41 : decode cX0_fails 41 = .ok (.invokespecial 52, 3) := by decide +kernel
theorem dX0_fails_44 : decode cX0_fails 44 = .ok (.athrow, 1) := by decide +kernel
theorem dX0_fails_45 : decode cX0_fails 45 = .ok (.aload_n 0, 1) := by decide +kernel
theorem dX0_fails_46 : decode cX0_fails 46 = .ok (.getfield 23, 3) := by decide +kernel
theorem dX0_fails_49 : decode cX0_fails 49 = .ok (.getfield 71, 3) := by decide +kernel
theorem dX0_fails_52 : decode cX0_fails 52 = .ok (.iload_n 1, 1) := by decide +kernel
theorem dX0_fails_53 : decode cX0_fails 53 = .ok (.iaload, 1) := by decide +kernel
theorem dX0_fails_54 : decode cX0_fails 54 = .ok (.istore 4, 2) := by decide +kernel
theorem dX0_fails_56 : decode cX0_fails 56 = .ok (.aload_n 0, 1) := by decide +kernel
theorem dX0_fails_57 : decode cX0_fails 57 = .ok (.getfield 23, 3) := by decide +kernel
theorem dX0_fails_60 : decode cX0_fails 60 = .ok (.getfield 74, 3) := by decide +kernel
theorem dX0_fails_63 : decode cX0_fails 63 = .ok (.iload_n 1, 1) := by decide +kernel
theorem dX0_fails_64 : decode cX0_fails 64 = .ok (.iload_n 2, 1) := by decide +kernel
theorem dX0_fails_65 : decode cX0_fails 65 = .ok (.iastore, 1) := by decide +kernel
theorem dX0_fails_66 : decode cX0_fails 66 = .ok (.aload_n 0, 1) := by decide +kernel
theorem dX0_fails_67 : decode cX0_fails 67 = .ok (.getfield 23, 3) := by decide +kernel
theorem dX0_fails_70 : decode cX0_fails 70 = .ok (.getfield 71, 3) := by decide +kernel
theorem dX0_fails_73 : decode cX0_fails 73 = .ok (.iload_n 1, 1) := by decide +kernel
theorem dX0_fails_74 : decode cX0_fails 74 = .ok (.iload_n 3, 1) := by decide +kernel
theorem dX0_fails_75 : decode cX0_fails 75 = .ok (.iastore, 1) := by decide +kernel
theorem dX0_fails_76 : decode cX0_fails 76 = .ok (.iload 4, 2) := by decide +kernel
theorem dX0_fails_78 : decode cX0_fails 78 = .ok (.ireturn, 1) := by decide +kernel
theorem dX0_act_0 : decode cX0_act 0 = .ok (.iload_n 1, 1) := by decide +kernel
theorem dX0_act_1 : decode cX0_act 1 = .ok (.ifCond .lt 14, 3) := by decide +kernel
theorem dX0_act_4 : decode cX0_act 4 = .ok (.iload_n 1, 1) := by decide +kernel
theorem dX0_act_5 : decode cX0_act 5 = .ok (.aload_n 0, 1) := by decide +kernel
theorem dX0_act_6 : decode cX0_act 6 = .ok (.getfield 23, 3) := by decide +kernel
theorem dX0_act_9 : decode cX0_act 9 = .ok (.getfield 77, 3) := by decide +kernel
theorem dX0_act_12 : decode cX0_act 12 = .ok (.if_icmp .le 13, 3) := by decide +kernel
theorem dX0_act_15 : decode cX0_act 15 = .ok (.new 80, 3) := by decide +kernel
theorem dX0_act_18 : decode cX0_act 18 = .ok (.dup, 1) := by decide +kernel
theorem dX0_act_19 : decode cX0_act 19 = .ok (.ldc 82, 2) := by decide +kernel
theorem dX0_act_21 : decode cX0_act 21 = .ok (.invokespecial 84, 3) := by decide +kernel
theorem dX0_act_24 : decode cX0_act 24 = .ok (.athrow, 1) := by decide +kernel
theorem dX0_act_25 : decode cX0_act 25 = .ok (.aload_n 0, 1) := by decide +kernel
theorem dX0_act_26 : decode cX0_act 26 = .ok (.getfield 30, 3) := by decide +kernel
theorem dX0_act_29 : decode cX0_act 29 = .ok (.getfield 85, 3) := by decide +kernel
theorem dX0_act_32 : decode cX0_act 32 = .ok (.bipush 24, 2) := by decide +kernel
theorem dX0_act_34 : decode cX0_act 34 = .ok (.if_icmp .lt 13, 3) := by decide +kernel
theorem dX0_act_37 : decode cX0_act 37 = .ok (.new 86, 3) := by decide +kernel
theorem dX0_act_40 : decode cX0_act 40 = .ok (.dup, 1) := by decide +kernel
theorem dX0_act_41 : decode cX0_act 41 = .ok (.ldc 88, 2) := by decide +kernel
theorem dX0_act_43 : decode cX0_act 43 = .ok (.invokespecial 90, 3) := by decide +kernel
theorem dX0_act_46 : decode cX0_act 46 = .ok (.athrow, 1) := by decide +kernel
theorem dX0_act_47 : decode cX0_act 47 = .ok (.aload_n 0, 1) := by decide +kernel
theorem dX0_act_48 : decode cX0_act 48 = .ok (.getfield 30, 3) := by decide +kernel
theorem dX0_act_51 : decode cX0_act 51 = .ok (.iload_n 1, 1) := by decide +kernel
theorem dX0_act_52 : decode cX0_act 52 = .ok (.iload_n 2, 1) := by decide +kernel
theorem dX0_act_53 : decode cX0_act 53 = .ok (.invokevirtual 91, 3) := by decide +kernel
theorem dX0_act_56 : decode cX0_act 56 = .ok (.ireturn, 1) := by decide +kernel
theorem dX0_stop_0 : decode cX0_stop 0 = .ok (.iload_n 1, 1) := by decide +kernel
theorem dX0_stop_1 : decode cX0_stop 1 = .ok (.iconst (-1), 1) := by decide +kernel
theorem dX0_stop_2 : decode cX0_stop 2 = .ok (.if_icmp .eq 8, 3) := by decide +kernel
theorem dX0_stop_5 : decode cX0_stop 5 = .ok (.aload_n 0, 1) := by decide +kernel
theorem dX0_stop_6 : decode cX0_stop 6 = .ok (.iload_n 1, 1) := by decide +kernel
theorem dX0_stop_7 : decode cX0_stop 7 = .ok (.invokevirtual 45, 3) := by decide +kernel
theorem dX0_stop_10 : decode cX0_stop 10 = .ok (.aload_n 0, 1) := by decide +kernel
theorem dX0_stop_11 : decode cX0_stop 11 = .ok (.getfield 41, 3) := by decide +kernel
theorem dX0_stop_14 : decode cX0_stop 14 = .ok (.istore_n 2, 1) := by decide +kernel
theorem dX0_stop_15 : decode cX0_stop 15 = .ok (.aload_n 0, 1) := by decide +kernel
theorem dX0_stop_16 : decode cX0_stop 16 = .ok (.iload_n 1, 1) := by decide +kernel
theorem dX0_stop_17 : decode cX0_stop 17 = .ok (.putfield 41, 3) := by decide +kernel
theorem dX0_stop_20 : decode cX0_stop 20 = .ok (.iload_n 2, 1) := by decide +kernel
theorem dX0_stop_21 : decode cX0_stop 21 = .ok (.ireturn, 1) := by decide +kernel
theorem dX0_run_0 : decode cX0_run 0 = .ok (.iload_n 1, 1) := by decide +kernel
theorem dX0_run_1 : decode cX0_run 1 = .ok (.iconst 1, 1) := by decide +kernel
theorem dX0_run_2 : decode cX0_run 2 = .ok (.if_icmp .lt 9, 3) := by decide +kernel
theorem dX0_run_5 : decode cX0_run 5 = .ok (.iload_n 1, 1) := by decide +kernel
theorem dX0_run_6 : decode cX0_run 6 = .ok (.bipush 6, 2) := by decide +kernel
theorem dX0_run_8 : decode cX0_run 8 = .ok (.if_icmp .le 13, 3) := by decide +kernel
theorem dX0_run_11 : decode cX0_run 11 = .ok (.new 48, 3) := by decide +kernel
theorem dX0_run_14 : decode cX0_run 14 = .ok (.dup, 1) := by decide +kernel
theorem dX0_run_15 : decode cX0_run 15 = .ok (.ldc 94, 2) := by decide +kernel
theorem dX0_run_17 : decode cX0_run 17 = .ok (.invokespecial 52, 3) := by decide +kernel
theorem dX0_run_20 : decode cX0_run 20 = .ok (.athrow, 1) := by decide +kernel
theorem dX0_run_21 : decode cX0_run 21 = .ok (.iload_n 1, 1) := by decide +kernel
theorem dX0_run_22 : decode cX0_run 22 = .ok (.aload_n 0, 1) := by decide +kernel
theorem dX0_run_23 : decode cX0_run 23 = .ok (.getfield 23, 3) := by decide +kernel
theorem dX0_run_26 : decode cX0_run 26 = .ok (.invokevirtual 96, 3) := by decide +kernel
theorem dX0_run_29 : decode cX0_run 29 = .ok (.isub, 1) := by decide +kernel
theorem dX0_run_30 : decode cX0_run 30 = .ok (.istore_n 3, 1) := by decide +kernel
theorem dX0_run_31 : decode cX0_run 31 = .ok (.iload_n 3, 1) := by decide +kernel
theorem dX0_run_32 : decode cX0_run 32 = .ok (.iconst 1, 1) := by decide +kernel
theorem dX0_run_33 : decode cX0_run 33 = .ok (.if_icmp .ge 16, 3) := by decide +kernel
theorem dX0_run_36 : decode cX0_run 36 = .ok (.aload_n 0, 1) := by decide +kernel
theorem dX0_run_37 : decode cX0_run 37 = .ok (.dup, 1) := by decide +kernel
theorem dX0_run_38 : decode cX0_run 38 = .ok (.getfield 100, 3) := by decide +kernel
theorem dX0_run_41 : decode cX0_run 41 = .ok (.iconst 1, 1) := by decide +kernel
theorem dX0_run_42 : decode cX0_run 42 = .ok (.iadd, 1) := by decide +kernel
theorem dX0_run_43 : decode cX0_run 43 = .ok (.putfield 100, 3) := by decide +kernel
theorem dX0_run_46 : decode cX0_run 46 = .ok (.bipush (-2), 2) := by decide +kernel
theorem dX0_run_48 : decode cX0_run 48 = .ok (.ireturn, 1) := by decide +kernel
theorem dX0_run_49 : decode cX0_run 49 = .ok (.aload_n 0, 1) := by decide +kernel
theorem dX0_run_50 : decode cX0_run 50 = .ok (.dup, 1) := by decide +kernel
theorem dX0_run_51 : decode cX0_run 51 = .ok (.getfield 103, 3) := by decide +kernel
theorem dX0_run_54 : decode cX0_run 54 = .ok (.iconst 1, 1) := by decide +kernel
theorem dX0_run_55 : decode cX0_run 55 = .ok (.iadd, 1) := by decide +kernel
theorem dX0_run_56 : decode cX0_run 56 = .ok (.putfield 103, 3) := by decide +kernel
theorem dX0_run_59 : decode cX0_run 59 = .ok (.aload_n 0, 1) := by decide +kernel
theorem dX0_run_60 : decode cX0_run 60 = .ok (.getfield 37, 3) := by decide +kernel
theorem dX0_run_63 : decode cX0_run 63 = .ok (.iload_n 3, 1) := by decide +kernel
theorem dX0_run_64 : decode cX0_run 64 = .ok (.putfield 106, 3) := by decide +kernel
theorem dX0_run_67 : decode cX0_run 67 = .ok (.aload_n 0, 1) := by decide +kernel
theorem dX0_run_68 : decode cX0_run 68 = .ok (.getfield 37, 3) := by decide +kernel
theorem dX0_run_71 : decode cX0_run 71 = .ok (.aload_n 0, 1) := by decide +kernel
theorem dX0_run_72 : decode cX0_run 72 = .ok (.getfield 23, 3) := by decide +kernel
theorem dX0_run_75 : decode cX0_run 75 = .ok (.invokevirtual 109, 3) := by decide +kernel
theorem dX0_run_78 : decode cX0_run 78 = .ok (.aload_n 0, 1) := by decide +kernel
theorem dX0_run_79 : decode cX0_run 79 = .ok (.getfield 37, 3) := by decide +kernel
theorem dX0_run_82 : decode cX0_run 82 = .ok (.aload_n 0, 1) := by decide +kernel
theorem dX0_run_83 : decode cX0_run 83 = .ok (.getfield 23, 3) := by decide +kernel
theorem dX0_run_86 : decode cX0_run 86 = .ok (.aload_n 0, 1) := by decide +kernel
theorem dX0_run_87 : decode cX0_run 87 = .ok (.getfield 30, 3) := by decide +kernel
theorem dX0_run_90 : decode cX0_run 90 = .ok (.aload_n 0, 1) := by decide +kernel
theorem dX0_run_91 : decode cX0_run 91 = .ok (.getfield 41, 3) := by decide +kernel
theorem dX0_run_94 : decode cX0_run 94 = .ok (.invokevirtual 113, 3) := by decide +kernel
theorem dX0_run_97 : decode cX0_run 97 = .ok (.ireturn, 1) := by decide +kernel
theorem dX0_joined_0 : decode cX0_joined 0 = .ok (.aload_n 0, 1) := by decide +kernel
theorem dX0_joined_1 : decode cX0_joined 1 = .ok (.invokevirtual 117, 3) := by decide +kernel
theorem dX0_joined_4 : decode cX0_joined 4 = .ok (.aload_n 0, 1) := by decide +kernel
theorem dX0_joined_5 : decode cX0_joined 5 = .ok (.getfield 37, 3) := by decide +kernel
theorem dX0_joined_8 : decode cX0_joined 8 = .ok (.getfield 120, 3) := by decide +kernel
theorem dX0_joined_11 : decode cX0_joined 11 = .ok (.lreturn, 1) := by decide +kernel
theorem dX0_many_0 : decode cX0_many 0 = .ok (.aload_n 0, 1) := by decide +kernel
theorem dX0_many_1 : decode cX0_many 1 = .ok (.invokevirtual 117, 3) := by decide +kernel
theorem dX0_many_4 : decode cX0_many 4 = .ok (.aload_n 0, 1) := by decide +kernel
theorem dX0_many_5 : decode cX0_many 5 = .ok (.getfield 37, 3) := by decide +kernel
theorem dX0_many_8 : decode cX0_many 8 = .ok (.getfield 124, 3) := by decide +kernel
theorem dX0_many_11 : decode cX0_many 11 = .ok (.ireturn, 1) := by decide +kernel
theorem dX0_value_0 : decode cX0_value 0 = .ok (.aload_n 0, 1) := by decide +kernel
theorem dX0_value_1 : decode cX0_value 1 = .ok (.iload_n 1, 1) := by decide +kernel
theorem dX0_value_2 : decode cX0_value 2 = .ok (.invokevirtual 45, 3) := by decide +kernel
theorem dX0_value_5 : decode cX0_value 5 = .ok (.aload_n 0, 1) := by decide +kernel
theorem dX0_value_6 : decode cX0_value 6 = .ok (.invokevirtual 117, 3) := by decide +kernel
theorem dX0_value_9 : decode cX0_value 9 = .ok (.aload_n 0, 1) := by decide +kernel
theorem dX0_value_10 : decode cX0_value 10 = .ok (.getfield 37, 3) := by decide +kernel
theorem dX0_value_13 : decode cX0_value 13 = .ok (.getfield 127, 3) := by decide +kernel
theorem dX0_value_16 : decode cX0_value 16 = .ok (.iload_n 1, 1) := by decide +kernel
theorem dX0_value_17 : decode cX0_value 17 = .ok (.iaload, 1) := by decide +kernel
theorem dX0_value_18 : decode cX0_value 18 = .ok (.ireturn, 1) := by decide +kernel
theorem dX0_chain_0 : decode cX0_chain 0 = .ok (.aload_n 0, 1) := by decide +kernel
theorem dX0_chain_1 : decode cX0_chain 1 = .ok (.iload_n 1, 1) := by decide +kernel
theorem dX0_chain_2 : decode cX0_chain 2 = .ok (.invokevirtual 45, 3) := by decide +kernel
theorem dX0_chain_5 : decode cX0_chain 5 = .ok (.iload_n 2, 1) := by decide +kernel
theorem dX0_chain_6 : decode cX0_chain 6 = .ok (.ifCond .lt 16, 3) := by decide +kernel
theorem dX0_chain_9 : decode cX0_chain 9 = .ok (.iload_n 2, 1) := by decide +kernel
theorem dX0_chain_10 : decode cX0_chain 10 = .ok (.aload_n 0, 1) := by decide +kernel
theorem dX0_chain_11 : decode cX0_chain 11 = .ok (.getfield 23, 3) := by decide +kernel
theorem dX0_chain_14 : decode cX0_chain 14 = .ok (.getfield 57, 3) := by decide +kernel
theorem dX0_chain_17 : decode cX0_chain 17 = .ok (.iload_n 1, 1) := by decide +kernel
theorem dX0_chain_18 : decode cX0_chain 18 = .ok (.iaload, 1) := by decide +kernel
theorem dX0_chain_19 : decode cX0_chain 19 = .ok (.if_icmp .le 13, 3) := by decide +kernel
theorem dX0_chain_22 : decode cX0_chain 22 = .ok (.new 80, 3) := by decide +kernel
theorem dX0_chain_25 : decode cX0_chain 25 = .ok (.dup, 1) := by decide +kernel
theorem dX0_chain_26 : decode cX0_chain 26 = .ok (.ldc 130, 2) := by decide +kernel
theorem dX0_chain_28 : decode cX0_chain 28 = .ok (.invokespecial 84, 3) := by decide +kernel
theorem dX0_chain_31 : decode cX0_chain 31 = .ok (.athrow, 1) := by decide +kernel
theorem dX0_chain_32 : decode cX0_chain 32 = .ok (.aload_n 0, 1) := by decide +kernel
theorem dX0_chain_33 : decode cX0_chain 33 = .ok (.getfield 23, 3) := by decide +kernel
theorem dX0_chain_36 : decode cX0_chain 36 = .ok (.iload_n 1, 1) := by decide +kernel
theorem dX0_chain_37 : decode cX0_chain 37 = .ok (.iload_n 2, 1) := by decide +kernel
theorem dX0_chain_38 : decode cX0_chain 38 = .ok (.invokevirtual 132, 3) := by decide +kernel
theorem dX0_chain_41 : decode cX0_chain 41 = .ok (.lreturn, 1) := by decide +kernel
theorem dX0_came_0 : decode cX0_came 0 = .ok (.iload_n 1, 1) := by decide +kernel
theorem dX0_came_1 : decode cX0_came 1 = .ok (.ifCond .lt 14, 3) := by decide +kernel
theorem dX0_came_4 : decode cX0_came 4 = .ok (.iload_n 1, 1) := by decide +kernel
theorem dX0_came_5 : decode cX0_came 5 = .ok (.aload_n 0, 1) := by decide +kernel
theorem dX0_came_6 : decode cX0_came 6 = .ok (.getfield 30, 3) := by decide +kernel
theorem dX0_came_9 : decode cX0_came 9 = .ok (.getfield 85, 3) := by decide +kernel
theorem dX0_came_12 : decode cX0_came 12 = .ok (.if_icmp .lt 13, 3) := by decide +kernel
theorem dX0_came_15 : decode cX0_came 15 = .ok (.new 80, 3) := by decide +kernel
theorem dX0_came_18 : decode cX0_came 18 = .ok (.dup, 1) := by decide +kernel
theorem dX0_came_19 : decode cX0_came 19 = .ok (.ldc 136, 2) := by decide +kernel
theorem dX0_came_21 : decode cX0_came 21 = .ok (.invokespecial 84, 3) := by decide +kernel
theorem dX0_came_24 : decode cX0_came 24 = .ok (.athrow, 1) := by decide +kernel
theorem dX0_came_25 : decode cX0_came 25 = .ok (.aload_n 0, 1) := by decide +kernel
theorem dX0_came_26 : decode cX0_came 26 = .ok (.invokevirtual 117, 3) := by decide +kernel
theorem dX0_came_29 : decode cX0_came 29 = .ok (.aload_n 0, 1) := by decide +kernel
theorem dX0_came_30 : decode cX0_came 30 = .ok (.getfield 37, 3) := by decide +kernel
theorem dX0_came_33 : decode cX0_came 33 = .ok (.getfield 138, 3) := by decide +kernel
theorem dX0_came_36 : decode cX0_came 36 = .ok (.iload_n 1, 1) := by decide +kernel
theorem dX0_came_37 : decode cX0_came 37 = .ok (.iaload, 1) := by decide +kernel
theorem dX0_came_38 : decode cX0_came 38 = .ok (.ireturn, 1) := by decide +kernel
theorem dX0_begun_0 : decode cX0_begun 0 = .ok (.aload_n 0, 1) := by decide +kernel
theorem dX0_begun_1 : decode cX0_begun 1 = .ok (.iload_n 1, 1) := by decide +kernel
theorem dX0_begun_2 : decode cX0_begun 2 = .ok (.invokevirtual 45, 3) := by decide +kernel
theorem dX0_begun_5 : decode cX0_begun 5 = .ok (.aload_n 0, 1) := by decide +kernel
theorem dX0_begun_6 : decode cX0_begun 6 = .ok (.invokevirtual 117, 3) := by decide +kernel
theorem dX0_begun_9 : decode cX0_begun 9 = .ok (.aload_n 0, 1) := by decide +kernel
theorem dX0_begun_10 : decode cX0_begun 10 = .ok (.getfield 37, 3) := by decide +kernel
theorem dX0_begun_13 : decode cX0_begun 13 = .ok (.getfield 141, 3) := by decide +kernel
theorem dX0_begun_16 : decode cX0_begun 16 = .ok (.iload_n 1, 1) := by decide +kernel
theorem dX0_begun_17 : decode cX0_begun 17 = .ok (.iaload, 1) := by decide +kernel
theorem dX0_begun_18 : decode cX0_begun 18 = .ok (.ireturn, 1) := by decide +kernel
theorem dX0_steps_0 : decode cX0_steps 0 = .ok (.iload_n 1, 1) := by decide +kernel
theorem dX0_steps_1 : decode cX0_steps 1 = .ok (.ifCond .lt 8, 3) := by decide +kernel
theorem dX0_steps_4 : decode cX0_steps 4 = .ok (.iload_n 1, 1) := by decide +kernel
theorem dX0_steps_5 : decode cX0_steps 5 = .ok (.iconst 1, 1) := by decide +kernel
theorem dX0_steps_6 : decode cX0_steps 6 = .ok (.if_icmp .le 13, 3) := by decide +kernel
theorem dX0_steps_9 : decode cX0_steps 9 = .ok (.new 80, 3) := by decide +kernel
theorem dX0_steps_12 : decode cX0_steps 12 = .ok (.dup, 1) := by decide +kernel
theorem dX0_steps_13 : decode cX0_steps 13 = .ok (.ldc 144, 2) := by decide +kernel
theorem dX0_steps_15 : decode cX0_steps 15 = .ok (.invokespecial 84, 3) := by decide +kernel
theorem dX0_steps_18 : decode cX0_steps 18 = .ok (.athrow, 1) := by decide +kernel
theorem dX0_steps_19 : decode cX0_steps 19 = .ok (.aload_n 0, 1) := by decide +kernel
theorem dX0_steps_20 : decode cX0_steps 20 = .ok (.invokevirtual 117, 3) := by decide +kernel
theorem dX0_steps_23 : decode cX0_steps 23 = .ok (.iload_n 1, 1) := by decide +kernel
theorem dX0_steps_24 : decode cX0_steps 24 = .ok (.ifCond .ne 13, 3) := by decide +kernel
theorem dX0_steps_27 : decode cX0_steps 27 = .ok (.aload_n 0, 1) := by decide +kernel
theorem dX0_steps_28 : decode cX0_steps 28 = .ok (.getfield 37, 3) := by decide +kernel
theorem dX0_steps_31 : decode cX0_steps 31 = .ok (.getfield 146, 3) := by decide +kernel
theorem dX0_steps_34 : decode cX0_steps 34 = .ok (.goto 10, 3) := by decide +kernel
theorem dX0_steps_37 : decode cX0_steps 37 = .ok (.aload_n 0, 1) := by decide +kernel
theorem dX0_steps_38 : decode cX0_steps 38 = .ok (.getfield 37, 3) := by decide +kernel
theorem dX0_steps_41 : decode cX0_steps 41 = .ok (.getfield 106, 3) := by decide +kernel
theorem dX0_steps_44 : decode cX0_steps 44 = .ok (.ireturn, 1) := by decide +kernel
theorem dX0_count_0 : decode cX0_count 0 = .ok (.iload_n 1, 1) := by decide +kernel
theorem dX0_count_1 : decode cX0_count 1 = .ok (.tableswitch 57 0 3 #[31, 39, 47, 52], 31) := by decide +kernel
theorem dX0_count_32 : decode cX0_count 32 = .ok (.aload_n 0, 1) := by decide +kernel
theorem dX0_count_33 : decode cX0_count 33 = .ok (.getfield 23, 3) := by decide +kernel
theorem dX0_count_36 : decode cX0_count 36 = .ok (.getfield 77, 3) := by decide +kernel
theorem dX0_count_39 : decode cX0_count 39 = .ok (.ireturn, 1) := by decide +kernel
theorem dX0_count_40 : decode cX0_count 40 = .ok (.aload_n 0, 1) := by decide +kernel
theorem dX0_count_41 : decode cX0_count 41 = .ok (.getfield 30, 3) := by decide +kernel
theorem dX0_count_44 : decode cX0_count 44 = .ok (.getfield 85, 3) := by decide +kernel
theorem dX0_count_47 : decode cX0_count 47 = .ok (.ireturn, 1) := by decide +kernel
theorem dX0_count_48 : decode cX0_count 48 = .ok (.aload_n 0, 1) := by decide +kernel
theorem dX0_count_49 : decode cX0_count 49 = .ok (.getfield 103, 3) := by decide +kernel
theorem dX0_count_52 : decode cX0_count 52 = .ok (.ireturn, 1) := by decide +kernel
theorem dX0_count_53 : decode cX0_count 53 = .ok (.aload_n 0, 1) := by decide +kernel
theorem dX0_count_54 : decode cX0_count 54 = .ok (.getfield 100, 3) := by decide +kernel
theorem dX0_count_57 : decode cX0_count 57 = .ok (.ireturn, 1) := by decide +kernel
theorem dX0_count_58 : decode cX0_count 58 = .ok (.new 80, 3) := by decide +kernel
theorem dX0_count_61 : decode cX0_count 61 = .ok (.dup, 1) := by decide +kernel
theorem dX0_count_62 : decode cX0_count 62 = .ok (.ldc 149, 2) := by decide +kernel
theorem dX0_count_64 : decode cX0_count 64 = .ok (.invokespecial 84, 3) := by decide +kernel
theorem dX0_count_67 : decode cX0_count 67 = .ok (.athrow, 1) := by decide +kernel
theorem dX0_needShare_0 : decode cX0_needShare 0 = .ok (.iload_n 1, 1) := by decide +kernel
theorem dX0_needShare_1 : decode cX0_needShare 1 = .ok (.ifCond .lt 14, 3) := by decide +kernel
theorem dX0_needShare_4 : decode cX0_needShare 4 = .ok (.iload_n 1, 1) := by decide +kernel
theorem dX0_needShare_5 : decode cX0_needShare 5 = .ok (.aload_n 0, 1) := by decide +kernel
theorem dX0_needShare_6 : decode cX0_needShare 6 = .ok (.getfield 23, 3) := by decide +kernel
theorem dX0_needShare_9 : decode cX0_needShare 9 = .ok (.getfield 77, 3) := by decide +kernel
theorem dX0_needShare_12 : decode cX0_needShare 12 = .ok (.if_icmp .lt 13, 3) := by decide +kernel
theorem dX0_needShare_15 : decode cX0_needShare 15 = .ok (.new 80, 3) := by decide +kernel
theorem dX0_needShare_18 : decode cX0_needShare 18 = .ok (.dup, 1) := by decide +kernel
theorem dX0_needShare_19 : decode cX0_needShare 19 = .ok (.ldc 151, 2) := by decide +kernel
theorem dX0_needShare_21 : decode cX0_needShare 21 = .ok (.invokespecial 84, 3) := by decide +kernel
theorem dX0_needShare_24 : decode cX0_needShare 24 = .ok (.athrow, 1) := by decide +kernel
theorem dX0_needShare_25 : decode cX0_needShare 25 = .ok (.return_, 1) := by decide +kernel
theorem dX0_needRun_0 : decode cX0_needRun 0 = .ok (.aload_n 0, 1) := by decide +kernel
theorem dX0_needRun_1 : decode cX0_needRun 1 = .ok (.getfield 37, 3) := by decide +kernel
theorem dX0_needRun_4 : decode cX0_needRun 4 = .ok (.getfield 153, 3) := by decide +kernel
theorem dX0_needRun_7 : decode cX0_needRun 7 = .ok (.ifCond .ne 13, 3) := by decide +kernel
theorem dX0_needRun_10 : decode cX0_needRun 10 = .ok (.new 86, 3) := by decide +kernel
theorem dX0_needRun_13 : decode cX0_needRun 13 = .ok (.dup, 1) := by decide +kernel
theorem dX0_needRun_14 : decode cX0_needRun 14 = .ok (.ldc 157, 2) := by decide +kernel
theorem dX0_needRun_16 : decode cX0_needRun 16 = .ok (.invokespecial 90, 3) := by decide +kernel
theorem dX0_needRun_19 : decode cX0_needRun 19 = .ok (.athrow, 1) := by decide +kernel
theorem dX0_needRun_20 : decode cX0_needRun 20 = .ok (.return_, 1) := by decide +kernel
theorem dX1_init_0 : decode cX1_init 0 = .ok (.aload_n 0, 1) := by decide +kernel
theorem dX1_init_1 : decode cX1_init 1 = .ok (.invokespecial 1, 3) := by decide +kernel
theorem dX1_init_4 : decode cX1_init 4 = .ok (.aload_n 0, 1) := by decide +kernel
theorem dX1_init_5 : decode cX1_init 5 = .ok (.iload_n 1, 1) := by decide +kernel
theorem dX1_init_6 : decode cX1_init 6 = .ok (.putfield 7, 3) := by decide +kernel
theorem dX1_init_9 : decode cX1_init 9 = .ok (.aload_n 0, 1) := by decide +kernel
theorem dX1_init_10 : decode cX1_init 10 = .ok (.iload_n 1, 1) := by decide +kernel
theorem dX1_init_11 : decode cX1_init 11 = .ok (.newarray .int, 2) := by decide +kernel
theorem dX1_init_13 : decode cX1_init 13 = .ok (.putfield 13, 3) := by decide +kernel
theorem dX1_init_16 : decode cX1_init 16 = .ok (.aload_n 0, 1) := by decide +kernel
theorem dX1_init_17 : decode cX1_init 17 = .ok (.iload_n 1, 1) := by decide +kernel
theorem dX1_init_18 : decode cX1_init 18 = .ok (.newarray .int, 2) := by decide +kernel
theorem dX1_init_20 : decode cX1_init 20 = .ok (.putfield 17, 3) := by decide +kernel
theorem dX1_init_23 : decode cX1_init 23 = .ok (.aload_n 0, 1) := by decide +kernel
theorem dX1_init_24 : decode cX1_init 24 = .ok (.iload_n 1, 1) := by decide +kernel
theorem dX1_init_25 : decode cX1_init 25 = .ok (.newarray .int, 2) := by decide +kernel
theorem dX1_init_27 : decode cX1_init 27 = .ok (.putfield 20, 3) := by decide +kernel
theorem dX1_init_30 : decode cX1_init 30 = .ok (.aload_n 0, 1) := by decide +kernel
theorem dX1_init_31 : decode cX1_init 31 = .ok (.iload_n 1, 1) := by decide +kernel
theorem dX1_init_32 : decode cX1_init 32 = .ok (.newarray .int, 2) := by decide +kernel
theorem dX1_init_34 : decode cX1_init 34 = .ok (.putfield 23, 3) := by decide +kernel
theorem dX1_init_37 : decode cX1_init 37 = .ok (.aload_n 0, 1) := by decide +kernel
theorem dX1_init_38 : decode cX1_init 38 = .ok (.iload_n 1, 1) := by decide +kernel
theorem dX1_init_39 : decode cX1_init 39 = .ok (.newarray .int, 2) := by decide +kernel
theorem dX1_init_41 : decode cX1_init 41 = .ok (.putfield 26, 3) := by decide +kernel
theorem dX1_init_44 : decode cX1_init 44 = .ok (.aload_n 0, 1) := by decide +kernel
theorem dX1_init_45 : decode cX1_init 45 = .ok (.getfield 13, 3) := by decide +kernel
theorem dX1_init_48 : decode cX1_init 48 = .ok (.iconst 1, 1) := by decide +kernel
theorem dX1_init_49 : decode cX1_init 49 = .ok (.invokestatic 29, 3) := by decide +kernel
theorem dX1_init_52 : decode cX1_init 52 = .ok (.aload_n 0, 1) := by decide +kernel
theorem dX1_init_53 : decode cX1_init 53 = .ok (.getfield 23, 3) := by decide +kernel
theorem dX1_init_56 : decode cX1_init 56 = .ok (.iconst 1, 1) := by decide +kernel
theorem dX1_init_57 : decode cX1_init 57 = .ok (.invokestatic 29, 3) := by decide +kernel
theorem dX1_init_60 : decode cX1_init 60 = .ok (.return_, 1) := by decide +kernel
theorem dX1_behind_0 : decode cX1_behind 0 = .ok (.ldc2_w 35, 3) := by decide +kernel
theorem dX1_behind_3 : decode cX1_behind 3 = .ok (.aload_n 0, 1) := by decide +kernel
theorem dX1_behind_4 : decode cX1_behind 4 = .ok (.getfield 17, 3) := by decide +kernel
theorem dX1_behind_7 : decode cX1_behind 7 = .ok (.iload_n 1, 1) := by decide +kernel
theorem dX1_behind_8 : decode cX1_behind 8 = .ok (.iaload, 1) := by decide +kernel
