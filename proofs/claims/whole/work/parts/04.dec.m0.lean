theorem dM0_init_0 : decode cM0_init 0 = .ok (.aload_n 0, 1) := by decide +kernel
theorem dM0_init_1 : decode cM0_init 1 = .ok (.invokespecial 1, 3) := by decide +kernel
theorem dM0_init_4 : decode cM0_init 4 = .ok (.aload_n 0, 1) := by decide +kernel
theorem dM0_init_5 : decode cM0_init 5 = .ok (.bipush 40, 2) := by decide +kernel
theorem dM0_init_7 : decode cM0_init 7 = .ok (.newarray .int, 2) := by decide +kernel
theorem dM0_init_9 : decode cM0_init 9 = .ok (.putfield 7, 3) := by decide +kernel
theorem dM0_init_12 : decode cM0_init 12 = .ok (.aload_n 0, 1) := by decide +kernel
theorem dM0_init_13 : decode cM0_init 13 = .ok (.bipush 40, 2) := by decide +kernel
theorem dM0_init_15 : decode cM0_init 15 = .ok (.newarray .int, 2) := by decide +kernel
theorem dM0_init_17 : decode cM0_init 17 = .ok (.putfield 13, 3) := by decide +kernel
theorem dM0_init_20 : decode cM0_init 20 = .ok (.aload_n 0, 1) := by decide +kernel
theorem dM0_init_21 : decode cM0_init 21 = .ok (.bipush 40, 2) := by decide +kernel
theorem dM0_init_23 : decode cM0_init 23 = .ok (.newarray .int, 2) := by decide +kernel
theorem dM0_init_25 : decode cM0_init 25 = .ok (.putfield 16, 3) := by decide +kernel
theorem dM0_init_28 : decode cM0_init 28 = .ok (.aload_n 0, 1) := by decide +kernel
theorem dM0_init_29 : decode cM0_init 29 = .ok (.bipush 40, 2) := by decide +kernel
theorem dM0_init_31 : decode cM0_init 31 = .ok (.newarray .int, 2) := by decide +kernel
theorem dM0_init_33 : decode cM0_init 33 = .ok (.putfield 19, 3) := by decide +kernel
theorem dM0_init_36 : decode cM0_init 36 = .ok (.aload_n 0, 1) := by decide +kernel
theorem dM0_init_37 : decode cM0_init 37 = .ok (.bipush 40, 2) := by decide +kernel
theorem dM0_init_39 : decode cM0_init 39 = .ok (.newarray .int, 2) := by decide +kernel
theorem dM0_init_41 : decode cM0_init 41 = .ok (.putfield 22, 3) := by decide +kernel
theorem dM0_init_44 : decode cM0_init 44 = .ok (.aload_n 0, 1) := by decide +kernel
theorem dM0_init_45 : decode cM0_init 45 = .ok (.bipush 24, 2) := by decide +kernel
theorem dM0_init_47 : decode cM0_init 47 = .ok (.newarray .int, 2) := by decide +kernel
theorem dM0_init_49 : decode cM0_init 49 = .ok (.putfield 25, 3) := by decide +kernel
theorem dM0_init_52 : decode cM0_init 52 = .ok (.aload_n 0, 1) := by decide +kernel
theorem dM0_init_53 : decode cM0_init 53 = .ok (.bipush 24, 2) := by decide +kernel
theorem dM0_init_55 : decode cM0_init 55 = .ok (.newarray .int, 2) := by decide +kernel
theorem dM0_init_57 : decode cM0_init 57 = .ok (.putfield 28, 3) := by decide +kernel
theorem dM0_init_60 : decode cM0_init 60 = .ok (.aload_n 0, 1) := by decide +kernel
theorem dM0_init_61 : decode cM0_init 61 = .ok (.iconst (-1), 1) := by decide +kernel
theorem dM0_init_62 : decode cM0_init 62 = .ok (.putfield 31, 3) := by decide +kernel
theorem dM0_init_65 : decode cM0_init 65 = .ok (.aload_n 0, 1) := by decide +kernel
theorem dM0_init_66 : decode cM0_init 66 = .ok (.bipush 40, 2) := by decide +kernel
theorem dM0_init_68 : decode cM0_init 68 = .ok (.newarray .int, 2) := by decide +kernel
theorem dM0_init_70 : decode cM0_init 70 = .ok (.putfield 35, 3) := by decide +kernel
theorem dM0_init_73 : decode cM0_init 73 = .ok (.aload_n 0, 1) := by decide +kernel
theorem dM0_init_74 : decode cM0_init 74 = .ok (.bipush 40, 2) := by decide +kernel
theorem dM0_init_76 : decode cM0_init 76 = .ok (.newarray .int, 2) := by decide +kernel
theorem dM0_init_78 : decode cM0_init 78 = .ok (.putfield 38, 3) := by decide +kernel
theorem dM0_init_81 : decode cM0_init 81 = .ok (.aload_n 0, 1) := by decide +kernel
theorem dM0_init_82 : decode cM0_init 82 = .ok (.bipush 24, 2) := by decide +kernel
theorem dM0_init_84 : decode cM0_init 84 = .ok (.newarray .int, 2) := by decide +kernel
theorem dM0_init_86 : decode cM0_init 86 = .ok (.putfield 41, 3) := by decide +kernel
theorem dM0_init_89 : decode cM0_init 89 = .ok (.aload_n 0, 1) := by decide +kernel
theorem dM0_init_90 : decode cM0_init 90 = .ok (.iload_n 1, 1) := by decide +kernel
theorem dM0_init_91 : decode cM0_init 91 = .ok (.iconst 1, 1) := by decide +kernel
theorem dM0_init_92 : decode cM0_init 92 = .ok (.if_icmp .ge 7, 3) := by decide +kernel
theorem dM0_init_95 : decode cM0_init 95 = .ok (.iconst 1, 1) := by decide +kernel
theorem dM0_init_96 : decode cM0_init 96 = .ok (.goto 15, 3) := by decide +kernel
theorem dM0_init_99 : decode cM0_init 99 = .ok (.iload_n 1, 1) := by decide +kernel
theorem dM0_init_100 : decode cM0_init 100 = .ok (.bipush 40, 2) := by decide +kernel
theorem dM0_init_102 : decode cM0_init 102 = .ok (.if_icmp .le 8, 3) := by decide +kernel
theorem dM0_init_105 : decode cM0_init 105 = .ok (.bipush 40, 2) := by decide +kernel
theorem dM0_init_107 : decode cM0_init 107 = .ok (.goto 4, 3) := by decide +kernel
theorem dM0_init_110 : decode cM0_init 110 = .ok (.iload_n 1, 1) := by decide +kernel
theorem dM0_init_111 : decode cM0_init 111 = .ok (.putfield 44, 3) := by decide +kernel
theorem dM0_init_114 : decode cM0_init 114 = .ok (.iconst 0, 1) := by decide +kernel
theorem dM0_init_115 : decode cM0_init 115 = .ok (.istore_n 2, 1) := by decide +kernel
theorem dM0_init_116 : decode cM0_init 116 = .ok (.iload_n 2, 1) := by decide +kernel
theorem dM0_init_117 : decode cM0_init 117 = .ok (.bipush 40, 2) := by decide +kernel
theorem dM0_init_119 : decode cM0_init 119 = .ok (.if_icmp .ge 16, 3) := by decide +kernel
theorem dM0_init_122 : decode cM0_init 122 = .ok (.aload_n 0, 1) := by decide +kernel
theorem dM0_init_123 : decode cM0_init 123 = .ok (.getfield 7, 3) := by decide +kernel
theorem dM0_init_126 : decode cM0_init 126 = .ok (.iload_n 2, 1) := by decide +kernel
theorem dM0_init_127 : decode cM0_init 127 = .ok (.iconst 1, 1) := by decide +kernel
theorem dM0_init_128 : decode cM0_init 128 = .ok (.iastore, 1) := by decide +kernel
theorem dM0_init_129 : decode cM0_init 129 = .ok (.iinc 2 1, 3) := by decide +kernel
theorem dM0_init_132 : decode cM0_init 132 = .ok (.goto (-16), 3) := by decide +kernel
theorem dM0_init_135 : decode cM0_init 135 = .ok (.iconst 0, 1) := by decide +kernel
theorem dM0_init_136 : decode cM0_init 136 = .ok (.istore_n 2, 1) := by decide +kernel
theorem dM0_init_137 : decode cM0_init 137 = .ok (.iload_n 2, 1) := by decide +kernel
theorem dM0_init_138 : decode cM0_init 138 = .ok (.bipush 24, 2) := by decide +kernel
theorem dM0_init_140 : decode cM0_init 140 = .ok (.if_icmp .ge 16, 3) := by decide +kernel
theorem dM0_init_143 : decode cM0_init 143 = .ok (.aload_n 0, 1) := by decide +kernel
theorem dM0_init_144 : decode cM0_init 144 = .ok (.getfield 41, 3) := by decide +kernel
theorem dM0_init_147 : decode cM0_init 147 = .ok (.iload_n 2, 1) := by decide +kernel
theorem dM0_init_148 : decode cM0_init 148 = .ok (.iconst (-1), 1) := by decide +kernel
theorem dM0_init_149 : decode cM0_init 149 = .ok (.iastore, 1) := by decide +kernel
theorem dM0_init_150 : decode cM0_init 150 = .ok (.iinc 2 1, 3) := by decide +kernel
theorem dM0_init_153 : decode cM0_init 153 = .ok (.goto (-16), 3) := by decide +kernel
theorem dM0_init_156 : decode cM0_init 156 = .ok (.return_, 1) := by decide +kernel
theorem dM0_thrown_0 : decode cM0_thrown 0 = .ok (.aload_n 0, 1) := by decide +kernel
theorem dM0_thrown_1 : decode cM0_thrown 1 = .ok (.getfield 47, 3) := by decide +kernel
theorem dM0_thrown_4 : decode cM0_thrown 4 = .ok (.ireturn, 1) := by decide +kernel
theorem dM0_refuse_0 : decode cM0_refuse 0 = .ok (.aload_n 0, 1) := by decide +kernel
theorem dM0_refuse_1 : decode cM0_refuse 1 = .ok (.iload_n 1, 1) := by decide +kernel
theorem dM0_refuse_2 : decode cM0_refuse 2 = .ok (.putfield 47, 3) := by decide +kernel
theorem dM0_refuse_5 : decode cM0_refuse 5 = .ok (.iconst 0, 1) := by decide +kernel
theorem dM0_refuse_6 : decode cM0_refuse 6 = .ok (.ireturn, 1) := by decide +kernel
theorem dM0_isShare_0 : decode cM0_isShare 0 = .ok (.iload_n 1, 1) := by decide +kernel
theorem dM0_isShare_1 : decode cM0_isShare 1 = .ok (.ifCond .lt 15, 3) := by decide +kernel
theorem dM0_isShare_4 : decode cM0_isShare 4 = .ok (.iload_n 1, 1) := by decide +kernel
theorem dM0_isShare_5 : decode cM0_isShare 5 = .ok (.aload_n 0, 1) := by decide +kernel
theorem dM0_isShare_6 : decode cM0_isShare 6 = .ok (.getfield 44, 3) := by decide +kernel
theorem dM0_isShare_9 : decode cM0_isShare 9 = .ok (.if_icmp .ge 7, 3) := by decide +kernel
theorem dM0_isShare_12 : decode cM0_isShare 12 = .ok (.iconst 1, 1) := by decide +kernel
theorem dM0_isShare_13 : decode cM0_isShare 13 = .ok (.goto 4, 3) := by decide +kernel
theorem dM0_isShare_16 : decode cM0_isShare 16 = .ok (.iconst 0, 1) := by decide +kernel
theorem dM0_isShare_17 : decode cM0_isShare 17 = .ok (.ireturn, 1) := by decide +kernel
theorem dM0_in_0 : decode cM0_in 0 = .ok (.iload_n 0, 1) := by decide +kernel
theorem dM0_in_1 : decode cM0_in 1 = .ok (.iload_n 1, 1) := by decide +kernel
theorem dM0_in_2 : decode cM0_in 2 = .ok (.if_icmp .lt 12, 3) := by decide +kernel
theorem dM0_in_5 : decode cM0_in 5 = .ok (.iload_n 0, 1) := by decide +kernel
theorem dM0_in_6 : decode cM0_in 6 = .ok (.iload_n 2, 1) := by decide +kernel
theorem dM0_in_7 : decode cM0_in 7 = .ok (.if_icmp .gt 7, 3) := by decide +kernel
theorem dM0_in_10 : decode cM0_in 10 = .ok (.iconst 1, 1) := by decide +kernel
theorem dM0_in_11 : decode cM0_in 11 = .ok (.goto 4, 3) := by decide +kernel
theorem dM0_in_14 : decode cM0_in 14 = .ok (.iconst 0, 1) := by decide +kernel
theorem dM0_in_15 : decode cM0_in 15 = .ok (.ireturn, 1) := by decide +kernel
theorem dM0_share_0 : decode cM0_share 0 = .ok (.aload_n 0, 1) := by decide +kernel
theorem dM0_share_1 : decode cM0_share 1 = .ok (.iload_n 1, 1) := by decide +kernel
theorem dM0_share_2 : decode cM0_share 2 = .ok (.invokevirtual 50, 3) := by decide +kernel
theorem dM0_share_5 : decode cM0_share 5 = .ok (.ifCond .ne 9, 3) := by decide +kernel
theorem dM0_share_8 : decode cM0_share 8 = .ok (.aload_n 0, 1) := by decide +kernel
theorem dM0_share_9 : decode cM0_share 9 = .ok (.iconst 1, 1) := by decide +kernel
theorem dM0_share_10 : decode cM0_share 10 = .ok (.invokevirtual 54, 3) := by decide +kernel
theorem dM0_share_13 : decode cM0_share 13 = .ok (.ireturn, 1) := by decide +kernel
theorem dM0_share_14 : decode cM0_share 14 = .ok (.iload_n 2, 1) := by decide +kernel
theorem dM0_share_15 : decode cM0_share 15 = .ok (.iconst 1, 1) := by decide +kernel
theorem dM0_share_16 : decode cM0_share 16 = .ok (.bipush 30, 2) := by decide +kernel
theorem dM0_share_18 : decode cM0_share 18 = .ok (.invokestatic 58, 3) := by decide +kernel
theorem dM0_share_21 : decode cM0_share 21 = .ok (.ifCond .eq 14, 3) := by decide +kernel
theorem dM0_share_24 : decode cM0_share 24 = .ok (.iload 4, 2) := by decide +kernel
theorem dM0_share_26 : decode cM0_share 26 = .ok (.iconst 0, 1) := by decide +kernel
theorem dM0_share_27 : decode cM0_share 27 = .ok (.bipush 8, 2) := by decide +kernel
theorem dM0_share_29 : decode cM0_share 29 = .ok (.invokestatic 58, 3) := by decide +kernel
theorem dM0_share_32 : decode cM0_share 32 = .ok (.ifCond .ne 9, 3) := by decide +kernel
theorem dM0_share_35 : decode cM0_share 35 = .ok (.aload_n 0, 1) := by decide +kernel
theorem dM0_share_36 : decode cM0_share 36 = .ok (.iconst 2, 1) := by decide +kernel
theorem dM0_share_37 : decode cM0_share 37 = .ok (.invokevirtual 54, 3) := by decide +kernel
theorem dM0_share_40 : decode cM0_share 40 = .ok (.ireturn, 1) := by decide +kernel
theorem dM0_share_41 : decode cM0_share 41 = .ok (.aload_n 0, 1) := by decide +kernel
theorem dM0_share_42 : decode cM0_share 42 = .ok (.iconst 0, 1) := by decide +kernel
theorem dM0_share_43 : decode cM0_share 43 = .ok (.putfield 47, 3) := by decide +kernel
theorem dM0_share_46 : decode cM0_share 46 = .ok (.aload_n 0, 1) := by decide +kernel
theorem dM0_share_47 : decode cM0_share 47 = .ok (.getfield 7, 3) := by decide +kernel
theorem dM0_share_50 : decode cM0_share 50 = .ok (.iload_n 1, 1) := by decide +kernel
theorem dM0_share_51 : decode cM0_share 51 = .ok (.iaload, 1) := by decide +kernel
theorem dM0_share_52 : decode cM0_share 52 = .ok (.istore 5, 2) := by decide +kernel
theorem dM0_share_54 : decode cM0_share 54 = .ok (.aload_n 0, 1) := by decide +kernel
theorem dM0_share_55 : decode cM0_share 55 = .ok (.getfield 7, 3) := by decide +kernel
theorem dM0_share_58 : decode cM0_share 58 = .ok (.iload_n 1, 1) := by decide +kernel
theorem dM0_share_59 : decode cM0_share 59 = .ok (.iload_n 2, 1) := by decide +kernel
theorem dM0_share_60 : decode cM0_share 60 = .ok (.iastore, 1) := by decide +kernel
theorem dM0_share_61 : decode cM0_share 61 = .ok (.aload_n 0, 1) := by decide +kernel
theorem dM0_share_62 : decode cM0_share 62 = .ok (.getfield 13, 3) := by decide +kernel
theorem dM0_share_65 : decode cM0_share 65 = .ok (.iload_n 1, 1) := by decide +kernel
theorem dM0_share_66 : decode cM0_share 66 = .ok (.iload_n 3, 1) := by decide +kernel
theorem dM0_share_67 : decode cM0_share 67 = .ok (.iastore, 1) := by decide +kernel
theorem dM0_share_68 : decode cM0_share 68 = .ok (.aload_n 0, 1) := by decide +kernel
theorem dM0_share_69 : decode cM0_share 69 = .ok (.getfield 16, 3) := by decide +kernel
theorem dM0_share_72 : decode cM0_share 72 = .ok (.iload_n 1, 1) := by decide +kernel
theorem dM0_share_73 : decode cM0_share 73 = .ok (.iload 4, 2) := by decide +kernel
theorem dM0_share_75 : decode cM0_share 75 = .ok (.iastore, 1) := by decide +kernel
theorem dM0_share_76 : decode cM0_share 76 = .ok (.iload 5, 2) := by decide +kernel
theorem dM0_share_78 : decode cM0_share 78 = .ok (.ireturn, 1) := by decide +kernel
theorem dM0_fails_0 : decode cM0_fails 0 = .ok (.aload_n 0, 1) := by decide +kernel
theorem dM0_fails_1 : decode cM0_fails 1 = .ok (.iload_n 1, 1) := by decide +kernel
theorem dM0_fails_2 : decode cM0_fails 2 = .ok (.invokevirtual 50, 3) := by decide +kernel
theorem dM0_fails_5 : decode cM0_fails 5 = .ok (.ifCond .ne 9, 3) := by decide +kernel
theorem dM0_fails_8 : decode cM0_fails 8 = .ok (.aload_n 0, 1) := by decide +kernel
theorem dM0_fails_9 : decode cM0_fails 9 = .ok (.iconst 1, 1) := by decide +kernel
theorem dM0_fails_10 : decode cM0_fails 10 = .ok (.invokevirtual 54, 3) := by decide +kernel
theorem dM0_fails_13 : decode cM0_fails 13 = .ok (.ireturn, 1) := by decide +kernel
theorem dM0_fails_14 : decode cM0_fails 14 = .ok (.iload_n 2, 1) := by decide +kernel
theorem dM0_fails_15 : decode cM0_fails 15 = .ok (.iconst 1, 1) := by decide +kernel
theorem dM0_fails_16 : decode cM0_fails 16 = .ok (.bipush 30, 2) := by decide +kernel
theorem dM0_fails_18 : decode cM0_fails 18 = .ok (.invokestatic 58, 3) := by decide +kernel
theorem dM0_fails_21 : decode cM0_fails 21 = .ok (.ifCond .eq 12, 3) := by decide +kernel
theorem dM0_fails_24 : decode cM0_fails 24 = .ok (.iload_n 3, 1) := by decide +kernel
theorem dM0_fails_25 : decode cM0_fails 25 = .ok (.iconst 0, 1) := by decide +kernel
theorem dM0_fails_26 : decode cM0_fails 26 = .ok (.iconst 4, 1) := by decide +kernel
theorem dM0_fails_27 : decode cM0_fails 27 = .ok (.invokestatic 58, 3) := by decide +kernel
theorem dM0_fails_30 : decode cM0_fails 30 = .ok (.ifCond .ne 9, 3) := by decide +kernel
theorem dM0_fails_33 : decode cM0_fails 33 = .ok (.aload_n 0, 1) := by decide +kernel
theorem dM0_fails_34 : decode cM0_fails 34 = .ok (.iconst 2, 1) := by decide +kernel
theorem dM0_fails_35 : decode cM0_fails 35 = .ok (.invokevirtual 54, 3) := by decide +kernel
theorem dM0_fails_38 : decode cM0_fails 38 = .ok (.ireturn, 1) := by decide +kernel
theorem dM0_fails_39 : decode cM0_fails 39 = .ok (.aload_n 0, 1) := by decide +kernel
theorem dM0_fails_40 : decode cM0_fails 40 = .ok (.iconst 0, 1) := by decide +kernel
theorem dM0_fails_41 : decode cM0_fails 41 = .ok (.putfield 47, 3) := by decide +kernel
theorem dM0_fails_44 : decode cM0_fails 44 = .ok (.aload_n 0, 1) := by decide +kernel
theorem dM0_fails_45 : decode cM0_fails 45 = .ok (.getfield 22, 3) := by decide +kernel
theorem dM0_fails_48 : decode cM0_fails 48 = .ok (.iload_n 1, 1) := by decide +kernel
theorem dM0_fails_49 : decode cM0_fails 49 = .ok (.iaload, 1) := by decide +kernel
theorem dM0_fails_50 : decode cM0_fails 50 = .ok (.istore 4, 2) := by decide +kernel
theorem dM0_fails_52 : decode cM0_fails 52 = .ok (.aload_n 0, 1) := by decide +kernel
theorem dM0_fails_53 : decode cM0_fails 53 = .ok (.getfield 19, 3) := by decide +kernel
theorem dM0_fails_56 : decode cM0_fails 56 = .ok (.iload_n 1, 1) := by decide +kernel
theorem dM0_fails_57 : decode cM0_fails 57 = .ok (.iload_n 2, 1) := by decide +kernel
theorem dM0_fails_58 : decode cM0_fails 58 = .ok (.iastore, 1) := by decide +kernel
theorem dM0_fails_59 : decode cM0_fails 59 = .ok (.aload_n 0, 1) := by decide +kernel
theorem dM0_fails_60 : decode cM0_fails 60 = .ok (.getfield 22, 3) := by decide +kernel
theorem dM0_fails_63 : decode cM0_fails 63 = .ok (.iload_n 1, 1) := by decide +kernel
theorem dM0_fails_64 : decode cM0_fails 64 = .ok (.iload_n 3, 1) := by decide +kernel
theorem dM0_fails_65 : decode cM0_fails 65 = .ok (.iastore, 1) := by decide +kernel
theorem dM0_fails_66 : decode cM0_fails 66 = .ok (.iload 4, 2) := by decide +kernel
theorem dM0_fails_68 : decode cM0_fails 68 = .ok (.ireturn, 1) := by decide +kernel
theorem dM0_act_0 : decode cM0_act 0 = .ok (.iload_n 1, 1) := by decide +kernel
theorem dM0_act_1 : decode cM0_act 1 = .ok (.iconst 0, 1) := by decide +kernel
theorem dM0_act_2 : decode cM0_act 2 = .ok (.aload_n 0, 1) := by decide +kernel
theorem dM0_act_3 : decode cM0_act 3 = .ok (.getfield 44, 3) := by decide +kernel
theorem dM0_act_6 : decode cM0_act 6 = .ok (.invokestatic 58, 3) := by decide +kernel
theorem dM0_act_9 : decode cM0_act 9 = .ok (.ifCond .ne 9, 3) := by decide +kernel
theorem dM0_act_12 : decode cM0_act 12 = .ok (.aload_n 0, 1) := by decide +kernel
theorem dM0_act_13 : decode cM0_act 13 = .ok (.iconst 1, 1) := by decide +kernel
theorem dM0_act_14 : decode cM0_act 14 = .ok (.invokevirtual 54, 3) := by decide +kernel
theorem dM0_act_17 : decode cM0_act 17 = .ok (.ireturn, 1) := by decide +kernel
theorem dM0_act_18 : decode cM0_act 18 = .ok (.aload_n 0, 1) := by decide +kernel
theorem dM0_act_19 : decode cM0_act 19 = .ok (.getfield 62, 3) := by decide +kernel
theorem dM0_act_22 : decode cM0_act 22 = .ok (.bipush 24, 2) := by decide +kernel
theorem dM0_act_24 : decode cM0_act 24 = .ok (.if_icmp .ne 9, 3) := by decide +kernel
theorem dM0_act_27 : decode cM0_act 27 = .ok (.aload_n 0, 1) := by decide +kernel
theorem dM0_act_28 : decode cM0_act 28 = .ok (.iconst 2, 1) := by decide +kernel
theorem dM0_act_29 : decode cM0_act 29 = .ok (.invokevirtual 54, 3) := by decide +kernel
theorem dM0_act_32 : decode cM0_act 32 = .ok (.ireturn, 1) := by decide +kernel
theorem dM0_act_33 : decode cM0_act 33 = .ok (.aload_n 0, 1) := by decide +kernel
theorem dM0_act_34 : decode cM0_act 34 = .ok (.iconst 0, 1) := by decide +kernel
theorem dM0_act_35 : decode cM0_act 35 = .ok (.putfield 47, 3) := by decide +kernel
theorem dM0_act_38 : decode cM0_act 38 = .ok (.aload_n 0, 1) := by decide +kernel
theorem dM0_act_39 : decode cM0_act 39 = .ok (.getfield 25, 3) := by decide +kernel
theorem dM0_act_42 : decode cM0_act 42 = .ok (.aload_n 0, 1) := by decide +kernel
theorem dM0_act_43 : decode cM0_act 43 = .ok (.getfield 62, 3) := by decide +kernel
theorem dM0_act_46 : decode cM0_act 46 = .ok (.iload_n 1, 1) := by decide +kernel
theorem dM0_act_47 : decode cM0_act 47 = .ok (.iastore, 1) := by decide +kernel
theorem dM0_act_48 : decode cM0_act 48 = .ok (.aload_n 0, 1) := by decide +kernel
theorem dM0_act_49 : decode cM0_act 49 = .ok (.getfield 28, 3) := by decide +kernel
theorem dM0_act_52 : decode cM0_act 52 = .ok (.aload_n 0, 1) := by decide +kernel
theorem dM0_act_53 : decode cM0_act 53 = .ok (.getfield 62, 3) := by decide +kernel
theorem dM0_act_56 : decode cM0_act 56 = .ok (.iload_n 2, 1) := by decide +kernel
theorem dM0_act_57 : decode cM0_act 57 = .ok (.iastore, 1) := by decide +kernel
theorem dM0_act_58 : decode cM0_act 58 = .ok (.aload_n 0, 1) := by decide +kernel
theorem dM0_act_59 : decode cM0_act 59 = .ok (.dup, 1) := by decide +kernel
theorem dM0_act_60 : decode cM0_act 60 = .ok (.getfield 62, 3) := by decide +kernel
theorem dM0_act_63 : decode cM0_act 63 = .ok (.iconst 1, 1) := by decide +kernel
theorem dM0_act_64 : decode cM0_act 64 = .ok (.iadd, 1) := by decide +kernel
theorem dM0_act_65 : decode cM0_act 65 = .ok (.putfield 62, 3) := by decide +kernel
theorem dM0_act_68 : decode cM0_act 68 = .ok (.aload_n 0, 1) := by decide +kernel
theorem dM0_act_69 : decode cM0_act 69 = .ok (.getfield 62, 3) := by decide +kernel
theorem dM0_act_72 : decode cM0_act 72 = .ok (.iconst 1, 1) := by decide +kernel
theorem dM0_act_73 : decode cM0_act 73 = .ok (.isub, 1) := by decide +kernel
theorem dM0_act_74 : decode cM0_act 74 = .ok (.ireturn, 1) := by decide +kernel
theorem dM0_stop_0 : decode cM0_stop 0 = .ok (.iload_n 1, 1) := by decide +kernel
theorem dM0_stop_1 : decode cM0_stop 1 = .ok (.iconst (-1), 1) := by decide +kernel
theorem dM0_stop_2 : decode cM0_stop 2 = .ok (.if_icmp .eq 17, 3) := by decide +kernel
theorem dM0_stop_5 : decode cM0_stop 5 = .ok (.aload_n 0, 1) := by decide +kernel
theorem dM0_stop_6 : decode cM0_stop 6 = .ok (.iload_n 1, 1) := by decide +kernel
theorem dM0_stop_7 : decode cM0_stop 7 = .ok (.invokevirtual 50, 3) := by decide +kernel
theorem dM0_stop_10 : decode cM0_stop 10 = .ok (.ifCond .ne 9, 3) := by decide +kernel
theorem dM0_stop_13 : decode cM0_stop 13 = .ok (.aload_n 0, 1) := by decide +kernel
theorem dM0_stop_14 : decode cM0_stop 14 = .ok (.iconst 1, 1) := by decide +kernel
theorem dM0_stop_15 : decode cM0_stop 15 = .ok (.invokevirtual 54, 3) := by decide +kernel
theorem dM0_stop_18 : decode cM0_stop 18 = .ok (.ireturn, 1) := by decide +kernel
theorem dM0_stop_19 : decode cM0_stop 19 = .ok (.aload_n 0, 1) := by decide +kernel
theorem dM0_stop_20 : decode cM0_stop 20 = .ok (.iconst 0, 1) := by decide +kernel
theorem dM0_stop_21 : decode cM0_stop 21 = .ok (.putfield 47, 3) := by decide +kernel
theorem dM0_stop_24 : decode cM0_stop 24 = .ok (.aload_n 0, 1) := by decide +kernel
theorem dM0_stop_25 : decode cM0_stop 25 = .ok (.getfield 31, 3) := by decide +kernel
theorem dM0_stop_28 : decode cM0_stop 28 = .ok (.istore_n 2, 1) := by decide +kernel
theorem dM0_stop_29 : decode cM0_stop 29 = .ok (.aload_n 0, 1) := by decide +kernel
theorem dM0_stop_30 : decode cM0_stop 30 = .ok (.iload_n 1, 1) := by decide +kernel
theorem dM0_stop_31 : decode cM0_stop 31 = .ok (.putfield 31, 3) := by decide +kernel
theorem dM0_stop_34 : decode cM0_stop 34 = .ok (.iload_n 2, 1) := by decide +kernel
theorem dM0_stop_35 : decode cM0_stop 35 = .ok (.ireturn, 1) := by decide +kernel
theorem dM0_after_0 : decode cM0_after 0 = .ok (.ldc2_w 65, 3) := by decide +kernel
theorem dM0_after_3 : decode cM0_after 3 = .ok (.aload_n 0, 1) := by decide +kernel
theorem dM0_after_4 : decode cM0_after 4 = .ok (.getfield 13, 3) := by decide +kernel
theorem dM0_after_7 : decode cM0_after 7 = .ok (.iload_n 1, 1) := by decide +kernel
theorem dM0_after_8 : decode cM0_after 8 = .ok (.iaload, 1) := by decide +kernel
theorem dM0_after_9 : decode cM0_after 9 = .ok (.i2l, 1) := by decide +kernel
theorem dM0_after_10 : decode cM0_after 10 = .ok (.lmul, 1) := by decide +kernel
theorem dM0_after_11 : decode cM0_after 11 = .ok (.iload_n 1, 1) := by decide +kernel
theorem dM0_after_12 : decode cM0_after 12 = .ok (.i2l, 1) := by decide +kernel
theorem dM0_after_13 : decode cM0_after 13 = .ok (.ladd, 1) := by decide +kernel
theorem dM0_after_14 : decode cM0_after 14 = .ok (.lstore_n 3, 1) := by decide +kernel
theorem dM0_after_15 : decode cM0_after 15 = .ok (.iconst 0, 1) := by decide +kernel
theorem dM0_after_16 : decode cM0_after 16 = .ok (.istore 5, 2) := by decide +kernel
theorem dM0_after_18 : decode cM0_after 18 = .ok (.iload 5, 2) := by decide +kernel
theorem dM0_after_20 : decode cM0_after 20 = .ok (.iload_n 2, 1) := by decide +kernel
theorem dM0_after_21 : decode cM0_after 21 = .ok (.if_icmp .ge 19, 3) := by decide +kernel
theorem dM0_after_24 : decode cM0_after 24 = .ok (.ldc2_w 67, 3) := by decide +kernel
theorem dM0_after_27 : decode cM0_after 27 = .ok (.lload_n 3, 1) := by decide +kernel
theorem dM0_after_28 : decode cM0_after 28 = .ok (.lmul, 1) := by decide +kernel
theorem dM0_after_29 : decode cM0_after 29 = .ok (.ldc2_w 69, 3) := by decide +kernel
theorem dM0_after_32 : decode cM0_after 32 = .ok (.ladd, 1) := by decide +kernel
theorem dM0_after_33 : decode cM0_after 33 = .ok (.lstore_n 3, 1) := by decide +kernel
theorem dM0_after_34 : decode cM0_after 34 = .ok (.iinc 5 1, 3) := by decide +kernel
theorem dM0_after_37 : decode cM0_after 37 = .ok (.goto (-19), 3) := by decide +kernel
theorem dM0_after_40 : decode cM0_after 40 = .ok (.lload_n 3, 1) := by decide +kernel
theorem dM0_after_41 : decode cM0_after 41 = .ok (.lreturn, 1) := by decide +kernel
theorem dM0_acted_0 : decode cM0_acted 0 = .ok (.iconst 0, 1) := by decide +kernel
theorem dM0_acted_1 : decode cM0_acted 1 = .ok (.istore_n 2, 1) := by decide +kernel
theorem dM0_acted_2 : decode cM0_acted 2 = .ok (.iload_n 2, 1) := by decide +kernel
theorem dM0_acted_3 : decode cM0_acted 3 = .ok (.aload_n 0, 1) := by decide +kernel
theorem dM0_acted_4 : decode cM0_acted 4 = .ok (.getfield 62, 3) := by decide +kernel
theorem dM0_acted_7 : decode cM0_acted 7 = .ok (.if_icmp .ge 46, 3) := by decide +kernel
theorem dM0_acted_10 : decode cM0_acted 10 = .ok (.aload_n 0, 1) := by decide +kernel
theorem dM0_acted_11 : decode cM0_acted 11 = .ok (.getfield 25, 3) := by decide +kernel
theorem dM0_acted_14 : decode cM0_acted 14 = .ok (.iload_n 2, 1) := by decide +kernel
theorem dM0_acted_15 : decode cM0_acted 15 = .ok (.iaload, 1) := by decide +kernel
theorem dM0_acted_16 : decode cM0_acted 16 = .ok (.iload_n 1, 1) := by decide +kernel
theorem dM0_acted_17 : decode cM0_acted 17 = .ok (.if_icmp .ne 30, 3) := by decide +kernel
theorem dM0_acted_20 : decode cM0_acted 20 = .ok (.aload_n 0, 1) := by decide +kernel
theorem dM0_acted_21 : decode cM0_acted 21 = .ok (.ldc2_w 71, 3) := by decide +kernel
theorem dM0_acted_24 : decode cM0_acted 24 = .ok (.aload_n 0, 1) := by decide +kernel
theorem dM0_acted_25 : decode cM0_acted 25 = .ok (.getfield 73, 3) := by decide +kernel
theorem dM0_acted_28 : decode cM0_acted 28 = .ok (.lmul, 1) := by decide +kernel
theorem dM0_acted_29 : decode cM0_acted 29 = .ok (.aload_n 0, 1) := by decide +kernel
theorem dM0_acted_30 : decode cM0_acted 30 = .ok (.getfield 28, 3) := by decide +kernel
theorem dM0_acted_33 : decode cM0_acted 33 = .ok (.iload_n 2, 1) := by decide +kernel
theorem dM0_acted_34 : decode cM0_acted 34 = .ok (.iaload, 1) := by decide +kernel
theorem dM0_acted_35 : decode cM0_acted 35 = .ok (.i2l, 1) := by decide +kernel
theorem dM0_acted_36 : decode cM0_acted 36 = .ok (.ladd, 1) := by decide +kernel
theorem dM0_acted_37 : decode cM0_acted 37 = .ok (.putfield 73, 3) := by decide +kernel
theorem dM0_acted_40 : decode cM0_acted 40 = .ok (.aload_n 0, 1) := by decide +kernel
theorem dM0_acted_41 : decode cM0_acted 41 = .ok (.getfield 41, 3) := by decide +kernel
theorem dM0_acted_44 : decode cM0_acted 44 = .ok (.iload_n 2, 1) := by decide +kernel
theorem dM0_acted_45 : decode cM0_acted 45 = .ok (.iload_n 1, 1) := by decide +kernel
theorem dM0_acted_46 : decode cM0_acted 46 = .ok (.iastore, 1) := by decide +kernel
theorem dM0_acted_47 : decode cM0_acted 47 = .ok (.iinc 2 1, 3) := by decide +kernel
theorem dM0_acted_50 : decode cM0_acted 50 = .ok (.goto (-48), 3) := by decide +kernel
theorem dM0_acted_53 : decode cM0_acted 53 = .ok (.return_, 1) := by decide +kernel
theorem dM0_settles_0 : decode cM0_settles 0 = .ok (.aload_n 0, 1) := by decide +kernel
theorem dM0_settles_1 : decode cM0_settles 1 = .ok (.getfield 16, 3) := by decide +kernel
theorem dM0_settles_4 : decode cM0_settles 4 = .ok (.iload_n 1, 1) := by decide +kernel
theorem dM0_settles_5 : decode cM0_settles 5 = .ok (.iaload, 1) := by decide +kernel
theorem dM0_settles_6 : decode cM0_settles 6 = .ok (.ifCond .le 25, 3) := by decide +kernel
theorem dM0_settles_9 : decode cM0_settles 9 = .ok (.aload_n 0, 1) := by decide +kernel
theorem dM0_settles_10 : decode cM0_settles 10 = .ok (.getfield 35, 3) := by decide +kernel
theorem dM0_settles_13 : decode cM0_settles 13 = .ok (.iload_n 1, 1) := by decide +kernel
theorem dM0_settles_14 : decode cM0_settles 14 = .ok (.iaload, 1) := by decide +kernel
theorem dM0_settles_15 : decode cM0_settles 15 = .ok (.iconst 1, 1) := by decide +kernel
theorem dM0_settles_16 : decode cM0_settles 16 = .ok (.aload_n 0, 1) := by decide +kernel
theorem dM0_settles_17 : decode cM0_settles 17 = .ok (.getfield 16, 3) := by decide +kernel
theorem dM0_settles_20 : decode cM0_settles 20 = .ok (.iload_n 1, 1) := by decide +kernel
theorem dM0_settles_21 : decode cM0_settles 21 = .ok (.iaload, 1) := by decide +kernel
theorem dM0_settles_22 : decode cM0_settles 22 = .ok (.ishl, 1) := by decide +kernel
theorem dM0_settles_23 : decode cM0_settles 23 = .ok (.irem, 1) := by decide +kernel
theorem dM0_settles_24 : decode cM0_settles 24 = .ok (.ifCond .ne 7, 3) := by decide +kernel
theorem dM0_settles_27 : decode cM0_settles 27 = .ok (.iconst 1, 1) := by decide +kernel
theorem dM0_settles_28 : decode cM0_settles 28 = .ok (.goto 4, 3) := by decide +kernel
theorem dM0_settles_31 : decode cM0_settles 31 = .ok (.iconst 0, 1) := by decide +kernel
theorem dM0_settles_32 : decode cM0_settles 32 = .ok (.ireturn, 1) := by decide +kernel
theorem dM0_join_0 : decode cM0_join 0 = .ok (.aload_n 0, 1) := by decide +kernel
theorem dM0_join_1 : decode cM0_join 1 = .ok (.lconst 0, 1) := by decide +kernel
theorem dM0_join_2 : decode cM0_join 2 = .ok (.putfield 73, 3) := by decide +kernel
theorem dM0_join_5 : decode cM0_join 5 = .ok (.aload_n 0, 1) := by decide +kernel
theorem dM0_join_6 : decode cM0_join 6 = .ok (.iconst 0, 1) := by decide +kernel
theorem dM0_join_7 : decode cM0_join 7 = .ok (.putfield 77, 3) := by decide +kernel
theorem dM0_join_10 : decode cM0_join 10 = .ok (.iconst 0, 1) := by decide +kernel
theorem dM0_join_11 : decode cM0_join 11 = .ok (.istore_n 1, 1) := by decide +kernel
theorem dM0_join_12 : decode cM0_join 12 = .ok (.iload_n 1, 1) := by decide +kernel
theorem dM0_join_13 : decode cM0_join 13 = .ok (.bipush 24, 2) := by decide +kernel
theorem dM0_join_15 : decode cM0_join 15 = .ok (.if_icmp .ge 16, 3) := by decide +kernel
theorem dM0_join_18 : decode cM0_join 18 = .ok (.aload_n 0, 1) := by decide +kernel
theorem dM0_join_19 : decode cM0_join 19 = .ok (.getfield 41, 3) := by decide +kernel
theorem dM0_join_22 : decode cM0_join 22 = .ok (.iload_n 1, 1) := by decide +kernel
theorem dM0_join_23 : decode cM0_join 23 = .ok (.iconst (-1), 1) := by decide +kernel
theorem dM0_join_24 : decode cM0_join 24 = .ok (.iastore, 1) := by decide +kernel
theorem dM0_join_25 : decode cM0_join 25 = .ok (.iinc 1 1, 3) := by decide +kernel
theorem dM0_join_28 : decode cM0_join 28 = .ok (.goto (-16), 3) := by decide +kernel
theorem dM0_join_31 : decode cM0_join 31 = .ok (.iconst 0, 1) := by decide +kernel
theorem dM0_join_32 : decode cM0_join 32 = .ok (.istore_n 1, 1) := by decide +kernel
theorem dM0_join_33 : decode cM0_join 33 = .ok (.iload_n 1, 1) := by decide +kernel
theorem dM0_join_34 : decode cM0_join 34 = .ok (.aload_n 0, 1) := by decide +kernel
theorem dM0_join_35 : decode cM0_join 35 = .ok (.getfield 44, 3) := by decide +kernel
theorem dM0_join_38 : decode cM0_join 38 = .ok (.if_icmp .ge 64, 3) := by decide +kernel
theorem dM0_join_41 : decode cM0_join 41 = .ok (.iload_n 1, 1) := by decide +kernel
theorem dM0_join_42 : decode cM0_join 42 = .ok (.aload_n 0, 1) := by decide +kernel
theorem dM0_join_43 : decode cM0_join 43 = .ok (.getfield 31, 3) := by decide +kernel
theorem dM0_join_46 : decode cM0_join 46 = .ok (.if_icmp .ne 5, 3) := by decide +kernel
theorem dM0_join_49 : decode cM0_join 49 = .ok (.iconst (-1), 1) := by decide +kernel
theorem dM0_join_50 : decode cM0_join 50 = .ok (.ireturn, 1) := by decide +kernel
theorem dM0_join_51 : decode cM0_join 51 = .ok (.aload_n 0, 1) := by decide +kernel
theorem dM0_join_52 : decode cM0_join 52 = .ok (.iload_n 1, 1) := by decide +kernel
theorem dM0_join_53 : decode cM0_join 53 = .ok (.invokevirtual 80, 3) := by decide +kernel
theorem dM0_join_56 : decode cM0_join 56 = .ok (.aload_n 0, 1) := by decide +kernel
theorem dM0_join_57 : decode cM0_join 57 = .ok (.ldc2_w 84, 3) := by decide +kernel
theorem dM0_join_60 : decode cM0_join 60 = .ok (.aload_n 0, 1) := by decide +kernel
theorem dM0_join_61 : decode cM0_join 61 = .ok (.getfield 73, 3) := by decide +kernel
theorem dM0_join_64 : decode cM0_join 64 = .ok (.lmul, 1) := by decide +kernel
theorem dM0_join_65 : decode cM0_join 65 = .ok (.aload_n 0, 1) := by decide +kernel
theorem dM0_join_66 : decode cM0_join 66 = .ok (.getfield 35, 3) := by decide +kernel
theorem dM0_join_69 : decode cM0_join 69 = .ok (.iload_n 1, 1) := by decide +kernel
theorem dM0_join_70 : decode cM0_join 70 = .ok (.iaload, 1) := by decide +kernel
theorem dM0_join_71 : decode cM0_join 71 = .ok (.i2l, 1) := by decide +kernel
theorem dM0_join_72 : decode cM0_join 72 = .ok (.ladd, 1) := by decide +kernel
theorem dM0_join_73 : decode cM0_join 73 = .ok (.putfield 73, 3) := by decide +kernel
theorem dM0_join_76 : decode cM0_join 76 = .ok (.aload_n 0, 1) := by decide +kernel
theorem dM0_join_77 : decode cM0_join 77 = .ok (.dup, 1) := by decide +kernel
theorem dM0_join_78 : decode cM0_join 78 = .ok (.getfield 77, 3) := by decide +kernel
theorem dM0_join_81 : decode cM0_join 81 = .ok (.iconst 1, 1) := by decide +kernel
theorem dM0_join_82 : decode cM0_join 82 = .ok (.iadd, 1) := by decide +kernel
theorem dM0_join_83 : decode cM0_join 83 = .ok (.putfield 77, 3) := by decide +kernel
theorem dM0_join_86 : decode cM0_join 86 = .ok (.aload_n 0, 1) := by decide +kernel
theorem dM0_join_87 : decode cM0_join 87 = .ok (.iload_n 1, 1) := by decide +kernel
theorem dM0_join_88 : decode cM0_join 88 = .ok (.invokevirtual 86, 3) := by decide +kernel
theorem dM0_join_91 : decode cM0_join 91 = .ok (.ifCond .eq 5, 3) := by decide +kernel
