theorem dM0_join_94 : decode cM0_join 94 = .ok (.iload_n 1, 1) := by decide +kernel
theorem dM0_join_95 : decode cM0_join 95 = .ok (.ireturn, 1) := by decide +kernel
theorem dM0_join_96 : decode cM0_join 96 = .ok (.iinc 1 1, 3) := by decide +kernel
theorem dM0_join_99 : decode cM0_join 99 = .ok (.goto (-66), 3) := by decide +kernel
theorem dM0_join_102 : decode cM0_join 102 = .ok (.aload_n 0, 1) := by decide +kernel
theorem dM0_join_103 : decode cM0_join 103 = .ok (.aload_n 0, 1) := by decide +kernel
theorem dM0_join_104 : decode cM0_join 104 = .ok (.getfield 44, 3) := by decide +kernel
theorem dM0_join_107 : decode cM0_join 107 = .ok (.invokevirtual 80, 3) := by decide +kernel
theorem dM0_join_110 : decode cM0_join 110 = .ok (.iconst (-1), 1) := by decide +kernel
theorem dM0_join_111 : decode cM0_join 111 = .ok (.ireturn, 1) := by decide +kernel
theorem dM0_run_0 : decode cM0_run 0 = .ok (.iload_n 1, 1) := by decide +kernel
theorem dM0_run_1 : decode cM0_run 1 = .ok (.iconst 1, 1) := by decide +kernel
theorem dM0_run_2 : decode cM0_run 2 = .ok (.bipush 6, 2) := by decide +kernel
theorem dM0_run_4 : decode cM0_run 4 = .ok (.invokestatic 58, 3) := by decide +kernel
theorem dM0_run_7 : decode cM0_run 7 = .ok (.ifCond .ne 9, 3) := by decide +kernel
theorem dM0_run_10 : decode cM0_run 10 = .ok (.aload_n 0, 1) := by decide +kernel
theorem dM0_run_11 : decode cM0_run 11 = .ok (.iconst 1, 1) := by decide +kernel
theorem dM0_run_12 : decode cM0_run 12 = .ok (.invokevirtual 54, 3) := by decide +kernel
theorem dM0_run_15 : decode cM0_run 15 = .ok (.ireturn, 1) := by decide +kernel
theorem dM0_run_16 : decode cM0_run 16 = .ok (.aload_n 0, 1) := by decide +kernel
theorem dM0_run_17 : decode cM0_run 17 = .ok (.iconst 0, 1) := by decide +kernel
theorem dM0_run_18 : decode cM0_run 18 = .ok (.putfield 47, 3) := by decide +kernel
theorem dM0_run_21 : decode cM0_run 21 = .ok (.iconst 0, 1) := by decide +kernel
theorem dM0_run_22 : decode cM0_run 22 = .ok (.istore_n 3, 1) := by decide +kernel
theorem dM0_run_23 : decode cM0_run 23 = .ok (.iconst 0, 1) := by decide +kernel
theorem dM0_run_24 : decode cM0_run 24 = .ok (.istore 4, 2) := by decide +kernel
theorem dM0_run_26 : decode cM0_run 26 = .ok (.iload 4, 2) := by decide +kernel
theorem dM0_run_28 : decode cM0_run 28 = .ok (.aload_n 0, 1) := by decide +kernel
theorem dM0_run_29 : decode cM0_run 29 = .ok (.getfield 44, 3) := by decide +kernel
theorem dM0_run_32 : decode cM0_run 32 = .ok (.if_icmp .ge 19, 3) := by decide +kernel
theorem dM0_run_35 : decode cM0_run 35 = .ok (.iload_n 3, 1) := by decide +kernel
theorem dM0_run_36 : decode cM0_run 36 = .ok (.aload_n 0, 1) := by decide +kernel
theorem dM0_run_37 : decode cM0_run 37 = .ok (.getfield 22, 3) := by decide +kernel
theorem dM0_run_40 : decode cM0_run 40 = .ok (.iload 4, 2) := by decide +kernel
theorem dM0_run_42 : decode cM0_run 42 = .ok (.iaload, 1) := by decide +kernel
theorem dM0_run_43 : decode cM0_run 43 = .ok (.iadd, 1) := by decide +kernel
theorem dM0_run_44 : decode cM0_run 44 = .ok (.istore_n 3, 1) := by decide +kernel
theorem dM0_run_45 : decode cM0_run 45 = .ok (.iinc 4 1, 3) := by decide +kernel
theorem dM0_run_48 : decode cM0_run 48 = .ok (.goto (-22), 3) := by decide +kernel
theorem dM0_run_51 : decode cM0_run 51 = .ok (.iload_n 3, 1) := by decide +kernel
theorem dM0_run_52 : decode cM0_run 52 = .ok (.iload_n 1, 1) := by decide +kernel
theorem dM0_run_53 : decode cM0_run 53 = .ok (.if_icmp .lt 16, 3) := by decide +kernel
theorem dM0_run_56 : decode cM0_run 56 = .ok (.aload_n 0, 1) := by decide +kernel
theorem dM0_run_57 : decode cM0_run 57 = .ok (.dup, 1) := by decide +kernel
theorem dM0_run_58 : decode cM0_run 58 = .ok (.getfield 89, 3) := by decide +kernel
theorem dM0_run_61 : decode cM0_run 61 = .ok (.iconst 1, 1) := by decide +kernel
theorem dM0_run_62 : decode cM0_run 62 = .ok (.iadd, 1) := by decide +kernel
theorem dM0_run_63 : decode cM0_run 63 = .ok (.putfield 89, 3) := by decide +kernel
theorem dM0_run_66 : decode cM0_run 66 = .ok (.bipush (-2), 2) := by decide +kernel
theorem dM0_run_68 : decode cM0_run 68 = .ok (.ireturn, 1) := by decide +kernel
theorem dM0_run_69 : decode cM0_run 69 = .ok (.aload_n 0, 1) := by decide +kernel
theorem dM0_run_70 : decode cM0_run 70 = .ok (.dup, 1) := by decide +kernel
theorem dM0_run_71 : decode cM0_run 71 = .ok (.getfield 92, 3) := by decide +kernel
theorem dM0_run_74 : decode cM0_run 74 = .ok (.iconst 1, 1) := by decide +kernel
theorem dM0_run_75 : decode cM0_run 75 = .ok (.iadd, 1) := by decide +kernel
theorem dM0_run_76 : decode cM0_run 76 = .ok (.putfield 92, 3) := by decide +kernel
theorem dM0_run_79 : decode cM0_run 79 = .ok (.aload_n 0, 1) := by decide +kernel
theorem dM0_run_80 : decode cM0_run 80 = .ok (.iload_n 1, 1) := by decide +kernel
theorem dM0_run_81 : decode cM0_run 81 = .ok (.iload_n 3, 1) := by decide +kernel
theorem dM0_run_82 : decode cM0_run 82 = .ok (.isub, 1) := by decide +kernel
theorem dM0_run_83 : decode cM0_run 83 = .ok (.putfield 95, 3) := by decide +kernel
theorem dM0_run_86 : decode cM0_run 86 = .ok (.aload_n 0, 1) := by decide +kernel
theorem dM0_run_87 : decode cM0_run 87 = .ok (.iconst 0, 1) := by decide +kernel
theorem dM0_run_88 : decode cM0_run 88 = .ok (.putfield 98, 3) := by decide +kernel
theorem dM0_run_91 : decode cM0_run 91 = .ok (.iconst 0, 1) := by decide +kernel
theorem dM0_run_92 : decode cM0_run 92 = .ok (.istore 4, 2) := by decide +kernel
theorem dM0_run_94 : decode cM0_run 94 = .ok (.iload 4, 2) := by decide +kernel
theorem dM0_run_96 : decode cM0_run 96 = .ok (.aload_n 0, 1) := by decide +kernel
theorem dM0_run_97 : decode cM0_run 97 = .ok (.getfield 44, 3) := by decide +kernel
theorem dM0_run_100 : decode cM0_run 100 = .ok (.if_icmp .ge 108, 3) := by decide +kernel
theorem dM0_run_103 : decode cM0_run 103 = .ok (.aload_n 0, 1) := by decide +kernel
theorem dM0_run_104 : decode cM0_run 104 = .ok (.getfield 35, 3) := by decide +kernel
theorem dM0_run_107 : decode cM0_run 107 = .ok (.iload 4, 2) := by decide +kernel
theorem dM0_run_109 : decode cM0_run 109 = .ok (.aload_n 0, 1) := by decide +kernel
theorem dM0_run_110 : decode cM0_run 110 = .ok (.iload 4, 2) := by decide +kernel
theorem dM0_run_112 : decode cM0_run 112 = .ok (.aload_n 0, 1) := by decide +kernel
theorem dM0_run_113 : decode cM0_run 113 = .ok (.getfield 7, 3) := by decide +kernel
theorem dM0_run_116 : decode cM0_run 116 = .ok (.iload 4, 2) := by decide +kernel
theorem dM0_run_118 : decode cM0_run 118 = .ok (.iaload, 1) := by decide +kernel
theorem dM0_run_119 : decode cM0_run 119 = .ok (.invokevirtual 101, 3) := by decide +kernel
theorem dM0_run_122 : decode cM0_run 122 = .ok (.bipush 33, 2) := by decide +kernel
theorem dM0_run_124 : decode cM0_run 124 = .ok (.lushr, 1) := by decide +kernel
theorem dM0_run_125 : decode cM0_run 125 = .ok (.l2i, 1) := by decide +kernel
theorem dM0_run_126 : decode cM0_run 126 = .ok (.iastore, 1) := by decide +kernel
theorem dM0_run_127 : decode cM0_run 127 = .ok (.aload_n 0, 1) := by decide +kernel
theorem dM0_run_128 : decode cM0_run 128 = .ok (.getfield 38, 3) := by decide +kernel
theorem dM0_run_131 : decode cM0_run 131 = .ok (.iload 4, 2) := by decide +kernel
theorem dM0_run_133 : decode cM0_run 133 = .ok (.iconst 1, 1) := by decide +kernel
theorem dM0_run_134 : decode cM0_run 134 = .ok (.aload_n 0, 1) := by decide +kernel
theorem dM0_run_135 : decode cM0_run 135 = .ok (.getfield 22, 3) := by decide +kernel
theorem dM0_run_138 : decode cM0_run 138 = .ok (.iload 4, 2) := by decide +kernel
theorem dM0_run_140 : decode cM0_run 140 = .ok (.iaload, 1) := by decide +kernel
theorem dM0_run_141 : decode cM0_run 141 = .ok (.iadd, 1) := by decide +kernel
theorem dM0_run_142 : decode cM0_run 142 = .ok (.iastore, 1) := by decide +kernel
theorem dM0_run_143 : decode cM0_run 143 = .ok (.aload_n 0, 1) := by decide +kernel
theorem dM0_run_144 : decode cM0_run 144 = .ok (.dup, 1) := by decide +kernel
theorem dM0_run_145 : decode cM0_run 145 = .ok (.getfield 98, 3) := by decide +kernel
theorem dM0_run_148 : decode cM0_run 148 = .ok (.aload_n 0, 1) := by decide +kernel
theorem dM0_run_149 : decode cM0_run 149 = .ok (.getfield 7, 3) := by decide +kernel
theorem dM0_run_152 : decode cM0_run 152 = .ok (.iload 4, 2) := by decide +kernel
theorem dM0_run_154 : decode cM0_run 154 = .ok (.iaload, 1) := by decide +kernel
theorem dM0_run_155 : decode cM0_run 155 = .ok (.aload_n 0, 1) := by decide +kernel
theorem dM0_run_156 : decode cM0_run 156 = .ok (.getfield 22, 3) := by decide +kernel
theorem dM0_run_159 : decode cM0_run 159 = .ok (.iload 4, 2) := by decide +kernel
theorem dM0_run_161 : decode cM0_run 161 = .ok (.iaload, 1) := by decide +kernel
theorem dM0_run_162 : decode cM0_run 162 = .ok (.aload_n 0, 1) := by decide +kernel
theorem dM0_run_163 : decode cM0_run 163 = .ok (.getfield 19, 3) := by decide +kernel
theorem dM0_run_166 : decode cM0_run 166 = .ok (.iload 4, 2) := by decide +kernel
theorem dM0_run_168 : decode cM0_run 168 = .ok (.iaload, 1) := by decide +kernel
theorem dM0_run_169 : decode cM0_run 169 = .ok (.aload_n 0, 1) := by decide +kernel
theorem dM0_run_170 : decode cM0_run 170 = .ok (.getfield 7, 3) := by decide +kernel
theorem dM0_run_173 : decode cM0_run 173 = .ok (.iload 4, 2) := by decide +kernel
theorem dM0_run_175 : decode cM0_run 175 = .ok (.iaload, 1) := by decide +kernel
theorem dM0_run_176 : decode cM0_run 176 = .ok (.if_icmp .ge 13, 3) := by decide +kernel
theorem dM0_run_179 : decode cM0_run 179 = .ok (.aload_n 0, 1) := by decide +kernel
theorem dM0_run_180 : decode cM0_run 180 = .ok (.getfield 19, 3) := by decide +kernel
theorem dM0_run_183 : decode cM0_run 183 = .ok (.iload 4, 2) := by decide +kernel
theorem dM0_run_185 : decode cM0_run 185 = .ok (.iaload, 1) := by decide +kernel
theorem dM0_run_186 : decode cM0_run 186 = .ok (.goto 10, 3) := by decide +kernel
theorem dM0_run_189 : decode cM0_run 189 = .ok (.aload_n 0, 1) := by decide +kernel
theorem dM0_run_190 : decode cM0_run 190 = .ok (.getfield 7, 3) := by decide +kernel
theorem dM0_run_193 : decode cM0_run 193 = .ok (.iload 4, 2) := by decide +kernel
theorem dM0_run_195 : decode cM0_run 195 = .ok (.iaload, 1) := by decide +kernel
theorem dM0_run_196 : decode cM0_run 196 = .ok (.imul, 1) := by decide +kernel
theorem dM0_run_197 : decode cM0_run 197 = .ok (.iadd, 1) := by decide +kernel
theorem dM0_run_198 : decode cM0_run 198 = .ok (.iadd, 1) := by decide +kernel
theorem dM0_run_199 : decode cM0_run 199 = .ok (.putfield 98, 3) := by decide +kernel
theorem dM0_run_202 : decode cM0_run 202 = .ok (.iinc 4 1, 3) := by decide +kernel
theorem dM0_run_205 : decode cM0_run 205 = .ok (.goto (-111), 3) := by decide +kernel
theorem dM0_run_208 : decode cM0_run 208 = .ok (.aload_n 0, 1) := by decide +kernel
theorem dM0_run_209 : decode cM0_run 209 = .ok (.invokevirtual 105, 3) := by decide +kernel
theorem dM0_run_212 : decode cM0_run 212 = .ok (.ireturn, 1) := by decide +kernel
theorem dM0_isNone_0 : decode cM0_isNone 0 = .ok (.aload_n 0, 1) := by decide +kernel
theorem dM0_isNone_1 : decode cM0_isNone 1 = .ok (.aload_n 0, 1) := by decide +kernel
theorem dM0_isNone_2 : decode cM0_isNone 2 = .ok (.getfield 92, 3) := by decide +kernel
theorem dM0_isNone_5 : decode cM0_isNone 5 = .ok (.ifCond .ne 7, 3) := by decide +kernel
theorem dM0_isNone_8 : decode cM0_isNone 8 = .ok (.iconst 1, 1) := by decide +kernel
theorem dM0_isNone_9 : decode cM0_isNone 9 = .ok (.goto 4, 3) := by decide +kernel
theorem dM0_isNone_12 : decode cM0_isNone 12 = .ok (.iconst 0, 1) := by decide +kernel
theorem dM0_isNone_13 : decode cM0_isNone 13 = .ok (.putfield 47, 3) := by decide +kernel
theorem dM0_isNone_16 : decode cM0_isNone 16 = .ok (.aload_n 0, 1) := by decide +kernel
theorem dM0_isNone_17 : decode cM0_isNone 17 = .ok (.getfield 92, 3) := by decide +kernel
theorem dM0_isNone_20 : decode cM0_isNone 20 = .ok (.ifCond .ne 7, 3) := by decide +kernel
theorem dM0_isNone_23 : decode cM0_isNone 23 = .ok (.iconst 1, 1) := by decide +kernel
theorem dM0_isNone_24 : decode cM0_isNone 24 = .ok (.goto 4, 3) := by decide +kernel
theorem dM0_isNone_27 : decode cM0_isNone 27 = .ok (.iconst 0, 1) := by decide +kernel
theorem dM0_isNone_28 : decode cM0_isNone 28 = .ok (.ireturn, 1) := by decide +kernel
theorem dM0_joined_0 : decode cM0_joined 0 = .ok (.aload_n 0, 1) := by decide +kernel
theorem dM0_joined_1 : decode cM0_joined 1 = .ok (.invokevirtual 109, 3) := by decide +kernel
theorem dM0_joined_4 : decode cM0_joined 4 = .ok (.ifCond .eq 7, 3) := by decide +kernel
theorem dM0_joined_7 : decode cM0_joined 7 = .ok (.lconst 0, 1) := by decide +kernel
theorem dM0_joined_8 : decode cM0_joined 8 = .ok (.goto 7, 3) := by decide +kernel
theorem dM0_joined_11 : decode cM0_joined 11 = .ok (.aload_n 0, 1) := by decide +kernel
theorem dM0_joined_12 : decode cM0_joined 12 = .ok (.getfield 73, 3) := by decide +kernel
theorem dM0_joined_15 : decode cM0_joined 15 = .ok (.lreturn, 1) := by decide +kernel
theorem dM0_many_0 : decode cM0_many 0 = .ok (.aload_n 0, 1) := by decide +kernel
theorem dM0_many_1 : decode cM0_many 1 = .ok (.invokevirtual 109, 3) := by decide +kernel
theorem dM0_many_4 : decode cM0_many 4 = .ok (.ifCond .eq 7, 3) := by decide +kernel
theorem dM0_many_7 : decode cM0_many 7 = .ok (.iconst 0, 1) := by decide +kernel
theorem dM0_many_8 : decode cM0_many 8 = .ok (.goto 7, 3) := by decide +kernel
theorem dM0_many_11 : decode cM0_many 11 = .ok (.aload_n 0, 1) := by decide +kernel
theorem dM0_many_12 : decode cM0_many 12 = .ok (.getfield 77, 3) := by decide +kernel
theorem dM0_many_15 : decode cM0_many 15 = .ok (.ireturn, 1) := by decide +kernel
theorem dM0_isRefused_0 : decode cM0_isRefused 0 = .ok (.aload_n 0, 1) := by decide +kernel
theorem dM0_isRefused_1 : decode cM0_isRefused 1 = .ok (.iload_n 1, 1) := by decide +kernel
theorem dM0_isRefused_2 : decode cM0_isRefused 2 = .ok (.ifCond .ne 7, 3) := by decide +kernel
theorem dM0_isRefused_5 : decode cM0_isRefused 5 = .ok (.iconst 1, 1) := by decide +kernel
theorem dM0_isRefused_6 : decode cM0_isRefused 6 = .ok (.goto 15, 3) := by decide +kernel
theorem dM0_isRefused_9 : decode cM0_isRefused 9 = .ok (.aload_n 0, 1) := by decide +kernel
theorem dM0_isRefused_10 : decode cM0_isRefused 10 = .ok (.getfield 92, 3) := by decide +kernel
theorem dM0_isRefused_13 : decode cM0_isRefused 13 = .ok (.ifCond .ne 7, 3) := by decide +kernel
theorem dM0_isRefused_16 : decode cM0_isRefused 16 = .ok (.iconst 2, 1) := by decide +kernel
theorem dM0_isRefused_17 : decode cM0_isRefused 17 = .ok (.goto 4, 3) := by decide +kernel
theorem dM0_isRefused_20 : decode cM0_isRefused 20 = .ok (.iconst 0, 1) := by decide +kernel
theorem dM0_isRefused_21 : decode cM0_isRefused 21 = .ok (.putfield 47, 3) := by decide +kernel
theorem dM0_isRefused_24 : decode cM0_isRefused 24 = .ok (.aload_n 0, 1) := by decide +kernel
theorem dM0_isRefused_25 : decode cM0_isRefused 25 = .ok (.getfield 47, 3) := by decide +kernel
theorem dM0_isRefused_28 : decode cM0_isRefused 28 = .ok (.ifCond .le 7, 3) := by decide +kernel
theorem dM0_isRefused_31 : decode cM0_isRefused 31 = .ok (.iconst 1, 1) := by decide +kernel
theorem dM0_isRefused_32 : decode cM0_isRefused 32 = .ok (.goto 4, 3) := by decide +kernel
theorem dM0_isRefused_35 : decode cM0_isRefused 35 = .ok (.iconst 0, 1) := by decide +kernel
theorem dM0_isRefused_36 : decode cM0_isRefused 36 = .ok (.ireturn, 1) := by decide +kernel
theorem dM0_value_0 : decode cM0_value 0 = .ok (.aload_n 0, 1) := by decide +kernel
theorem dM0_value_1 : decode cM0_value 1 = .ok (.aload_n 0, 1) := by decide +kernel
theorem dM0_value_2 : decode cM0_value 2 = .ok (.iload_n 1, 1) := by decide +kernel
theorem dM0_value_3 : decode cM0_value 3 = .ok (.invokevirtual 50, 3) := by decide +kernel
theorem dM0_value_6 : decode cM0_value 6 = .ok (.invokevirtual 113, 3) := by decide +kernel
theorem dM0_value_9 : decode cM0_value 9 = .ok (.ifCond .eq 7, 3) := by decide +kernel
theorem dM0_value_12 : decode cM0_value 12 = .ok (.iconst 0, 1) := by decide +kernel
theorem dM0_value_13 : decode cM0_value 13 = .ok (.goto 9, 3) := by decide +kernel
theorem dM0_value_16 : decode cM0_value 16 = .ok (.aload_n 0, 1) := by decide +kernel
theorem dM0_value_17 : decode cM0_value 17 = .ok (.getfield 35, 3) := by decide +kernel
theorem dM0_value_20 : decode cM0_value 20 = .ok (.iload_n 1, 1) := by decide +kernel
theorem dM0_value_21 : decode cM0_value 21 = .ok (.iaload, 1) := by decide +kernel
theorem dM0_value_22 : decode cM0_value 22 = .ok (.ireturn, 1) := by decide +kernel
theorem dM0_chain_0 : decode cM0_chain 0 = .ok (.aload_n 0, 1) := by decide +kernel
theorem dM0_chain_1 : decode cM0_chain 1 = .ok (.aload_n 0, 1) := by decide +kernel
theorem dM0_chain_2 : decode cM0_chain 2 = .ok (.iload_n 1, 1) := by decide +kernel
theorem dM0_chain_3 : decode cM0_chain 3 = .ok (.invokevirtual 50, 3) := by decide +kernel
theorem dM0_chain_6 : decode cM0_chain 6 = .ok (.ifCond .eq 33, 3) := by decide +kernel
theorem dM0_chain_9 : decode cM0_chain 9 = .ok (.iload_n 2, 1) := by decide +kernel
theorem dM0_chain_10 : decode cM0_chain 10 = .ok (.iconst 0, 1) := by decide +kernel
theorem dM0_chain_11 : decode cM0_chain 11 = .ok (.aload_n 0, 1) := by decide +kernel
theorem dM0_chain_12 : decode cM0_chain 12 = .ok (.getfield 7, 3) := by decide +kernel
theorem dM0_chain_15 : decode cM0_chain 15 = .ok (.aload_n 0, 1) := by decide +kernel
theorem dM0_chain_16 : decode cM0_chain 16 = .ok (.iload_n 1, 1) := by decide +kernel
theorem dM0_chain_17 : decode cM0_chain 17 = .ok (.invokevirtual 50, 3) := by decide +kernel
theorem dM0_chain_20 : decode cM0_chain 20 = .ok (.ifCond .eq 7, 3) := by decide +kernel
theorem dM0_chain_23 : decode cM0_chain 23 = .ok (.iload_n 1, 1) := by decide +kernel
theorem dM0_chain_24 : decode cM0_chain 24 = .ok (.goto 4, 3) := by decide +kernel
theorem dM0_chain_27 : decode cM0_chain 27 = .ok (.iconst 0, 1) := by decide +kernel
theorem dM0_chain_28 : decode cM0_chain 28 = .ok (.iaload, 1) := by decide +kernel
theorem dM0_chain_29 : decode cM0_chain 29 = .ok (.invokestatic 58, 3) := by decide +kernel
theorem dM0_chain_32 : decode cM0_chain 32 = .ok (.ifCond .eq 7, 3) := by decide +kernel
theorem dM0_chain_35 : decode cM0_chain 35 = .ok (.iconst 0, 1) := by decide +kernel
theorem dM0_chain_36 : decode cM0_chain 36 = .ok (.goto 4, 3) := by decide +kernel
theorem dM0_chain_39 : decode cM0_chain 39 = .ok (.iconst 1, 1) := by decide +kernel
theorem dM0_chain_40 : decode cM0_chain 40 = .ok (.putfield 47, 3) := by decide +kernel
theorem dM0_chain_43 : decode cM0_chain 43 = .ok (.aload_n 0, 1) := by decide +kernel
theorem dM0_chain_44 : decode cM0_chain 44 = .ok (.getfield 47, 3) := by decide +kernel
theorem dM0_chain_47 : decode cM0_chain 47 = .ok (.ifCond .le 7, 3) := by decide +kernel
theorem dM0_chain_50 : decode cM0_chain 50 = .ok (.lconst 0, 1) := by decide +kernel
theorem dM0_chain_51 : decode cM0_chain 51 = .ok (.goto 9, 3) := by decide +kernel
theorem dM0_chain_54 : decode cM0_chain 54 = .ok (.aload_n 0, 1) := by decide +kernel
theorem dM0_chain_55 : decode cM0_chain 55 = .ok (.iload_n 1, 1) := by decide +kernel
theorem dM0_chain_56 : decode cM0_chain 56 = .ok (.iload_n 2, 1) := by decide +kernel
theorem dM0_chain_57 : decode cM0_chain 57 = .ok (.invokevirtual 101, 3) := by decide +kernel
theorem dM0_chain_60 : decode cM0_chain 60 = .ok (.lreturn, 1) := by decide +kernel
theorem dM0_came_0 : decode cM0_came 0 = .ok (.aload_n 0, 1) := by decide +kernel
theorem dM0_came_1 : decode cM0_came 1 = .ok (.iload_n 1, 1) := by decide +kernel
theorem dM0_came_2 : decode cM0_came 2 = .ok (.iconst 0, 1) := by decide +kernel
theorem dM0_came_3 : decode cM0_came 3 = .ok (.aload_n 0, 1) := by decide +kernel
theorem dM0_came_4 : decode cM0_came 4 = .ok (.getfield 62, 3) := by decide +kernel
theorem dM0_came_7 : decode cM0_came 7 = .ok (.iconst 1, 1) := by decide +kernel
theorem dM0_came_8 : decode cM0_came 8 = .ok (.isub, 1) := by decide +kernel
theorem dM0_came_9 : decode cM0_came 9 = .ok (.invokestatic 58, 3) := by decide +kernel
theorem dM0_came_12 : decode cM0_came 12 = .ok (.invokevirtual 113, 3) := by decide +kernel
theorem dM0_came_15 : decode cM0_came 15 = .ok (.ifCond .eq 7, 3) := by decide +kernel
theorem dM0_came_18 : decode cM0_came 18 = .ok (.iconst 0, 1) := by decide +kernel
theorem dM0_came_19 : decode cM0_came 19 = .ok (.goto 9, 3) := by decide +kernel
theorem dM0_came_22 : decode cM0_came 22 = .ok (.aload_n 0, 1) := by decide +kernel
theorem dM0_came_23 : decode cM0_came 23 = .ok (.getfield 41, 3) := by decide +kernel
theorem dM0_came_26 : decode cM0_came 26 = .ok (.iload_n 1, 1) := by decide +kernel
theorem dM0_came_27 : decode cM0_came 27 = .ok (.iaload, 1) := by decide +kernel
theorem dM0_came_28 : decode cM0_came 28 = .ok (.ireturn, 1) := by decide +kernel
theorem dM0_begun_0 : decode cM0_begun 0 = .ok (.aload_n 0, 1) := by decide +kernel
theorem dM0_begun_1 : decode cM0_begun 1 = .ok (.aload_n 0, 1) := by decide +kernel
theorem dM0_begun_2 : decode cM0_begun 2 = .ok (.iload_n 1, 1) := by decide +kernel
theorem dM0_begun_3 : decode cM0_begun 3 = .ok (.invokevirtual 50, 3) := by decide +kernel
theorem dM0_begun_6 : decode cM0_begun 6 = .ok (.invokevirtual 113, 3) := by decide +kernel
theorem dM0_begun_9 : decode cM0_begun 9 = .ok (.ifCond .eq 7, 3) := by decide +kernel
theorem dM0_begun_12 : decode cM0_begun 12 = .ok (.iconst 0, 1) := by decide +kernel
theorem dM0_begun_13 : decode cM0_begun 13 = .ok (.goto 9, 3) := by decide +kernel
theorem dM0_begun_16 : decode cM0_begun 16 = .ok (.aload_n 0, 1) := by decide +kernel
theorem dM0_begun_17 : decode cM0_begun 17 = .ok (.getfield 38, 3) := by decide +kernel
theorem dM0_begun_20 : decode cM0_begun 20 = .ok (.iload_n 1, 1) := by decide +kernel
theorem dM0_begun_21 : decode cM0_begun 21 = .ok (.iaload, 1) := by decide +kernel
theorem dM0_begun_22 : decode cM0_begun 22 = .ok (.ireturn, 1) := by decide +kernel
theorem dM0_steps_0 : decode cM0_steps 0 = .ok (.aload_n 0, 1) := by decide +kernel
theorem dM0_steps_1 : decode cM0_steps 1 = .ok (.iload_n 1, 1) := by decide +kernel
theorem dM0_steps_2 : decode cM0_steps 2 = .ok (.iconst 0, 1) := by decide +kernel
theorem dM0_steps_3 : decode cM0_steps 3 = .ok (.iconst 1, 1) := by decide +kernel
theorem dM0_steps_4 : decode cM0_steps 4 = .ok (.invokestatic 58, 3) := by decide +kernel
theorem dM0_steps_7 : decode cM0_steps 7 = .ok (.invokevirtual 113, 3) := by decide +kernel
theorem dM0_steps_10 : decode cM0_steps 10 = .ok (.ifCond .eq 7, 3) := by decide +kernel
theorem dM0_steps_13 : decode cM0_steps 13 = .ok (.iconst 0, 1) := by decide +kernel
theorem dM0_steps_14 : decode cM0_steps 14 = .ok (.goto 18, 3) := by decide +kernel
theorem dM0_steps_17 : decode cM0_steps 17 = .ok (.iload_n 1, 1) := by decide +kernel
theorem dM0_steps_18 : decode cM0_steps 18 = .ok (.ifCond .ne 10, 3) := by decide +kernel
theorem dM0_steps_21 : decode cM0_steps 21 = .ok (.aload_n 0, 1) := by decide +kernel
theorem dM0_steps_22 : decode cM0_steps 22 = .ok (.getfield 98, 3) := by decide +kernel
theorem dM0_steps_25 : decode cM0_steps 25 = .ok (.goto 7, 3) := by decide +kernel
theorem dM0_steps_28 : decode cM0_steps 28 = .ok (.aload_n 0, 1) := by decide +kernel
theorem dM0_steps_29 : decode cM0_steps 29 = .ok (.getfield 95, 3) := by decide +kernel
theorem dM0_steps_32 : decode cM0_steps 32 = .ok (.ireturn, 1) := by decide +kernel
theorem dM0_count_0 : decode cM0_count 0 = .ok (.aload_n 0, 1) := by decide +kernel
theorem dM0_count_1 : decode cM0_count 1 = .ok (.iload_n 1, 1) := by decide +kernel
theorem dM0_count_2 : decode cM0_count 2 = .ok (.iconst 0, 1) := by decide +kernel
theorem dM0_count_3 : decode cM0_count 3 = .ok (.iconst 3, 1) := by decide +kernel
theorem dM0_count_4 : decode cM0_count 4 = .ok (.invokestatic 58, 3) := by decide +kernel
theorem dM0_count_7 : decode cM0_count 7 = .ok (.ifCond .eq 7, 3) := by decide +kernel
theorem dM0_count_10 : decode cM0_count 10 = .ok (.iconst 0, 1) := by decide +kernel
theorem dM0_count_11 : decode cM0_count 11 = .ok (.goto 4, 3) := by decide +kernel
theorem dM0_count_14 : decode cM0_count 14 = .ok (.iconst 1, 1) := by decide +kernel
theorem dM0_count_15 : decode cM0_count 15 = .ok (.putfield 47, 3) := by decide +kernel
theorem dM0_count_18 : decode cM0_count 18 = .ok (.aload_n 0, 1) := by decide +kernel
theorem dM0_count_19 : decode cM0_count 19 = .ok (.getfield 47, 3) := by decide +kernel
theorem dM0_count_22 : decode cM0_count 22 = .ok (.ifCond .le 7, 3) := by decide +kernel
theorem dM0_count_25 : decode cM0_count 25 = .ok (.iconst 0, 1) := by decide +kernel
theorem dM0_count_26 : decode cM0_count 26 = .ok (.goto 42, 3) := by decide +kernel
theorem dM0_count_29 : decode cM0_count 29 = .ok (.iload_n 1, 1) := by decide +kernel
theorem dM0_count_30 : decode cM0_count 30 = .ok (.ifCond .ne 10, 3) := by decide +kernel
theorem dM0_count_33 : decode cM0_count 33 = .ok (.aload_n 0, 1) := by decide +kernel
theorem dM0_count_34 : decode cM0_count 34 = .ok (.getfield 44, 3) := by decide +kernel
theorem dM0_count_37 : decode cM0_count 37 = .ok (.goto 31, 3) := by decide +kernel
theorem dM0_count_40 : decode cM0_count 40 = .ok (.iload_n 1, 1) := by decide +kernel
theorem dM0_count_41 : decode cM0_count 41 = .ok (.iconst 1, 1) := by decide +kernel
theorem dM0_count_42 : decode cM0_count 42 = .ok (.if_icmp .ne 10, 3) := by decide +kernel
theorem dM0_count_45 : decode cM0_count 45 = .ok (.aload_n 0, 1) := by decide +kernel
theorem dM0_count_46 : decode cM0_count 46 = .ok (.getfield 62, 3) := by decide +kernel
theorem dM0_count_49 : decode cM0_count 49 = .ok (.goto 19, 3) := by decide +kernel
theorem dM0_count_52 : decode cM0_count 52 = .ok (.iload_n 1, 1) := by decide +kernel
theorem dM0_count_53 : decode cM0_count 53 = .ok (.iconst 2, 1) := by decide +kernel
theorem dM0_count_54 : decode cM0_count 54 = .ok (.if_icmp .ne 10, 3) := by decide +kernel
theorem dM0_count_57 : decode cM0_count 57 = .ok (.aload_n 0, 1) := by decide +kernel
theorem dM0_count_58 : decode cM0_count 58 = .ok (.getfield 92, 3) := by decide +kernel
theorem dM0_count_61 : decode cM0_count 61 = .ok (.goto 7, 3) := by decide +kernel
theorem dM0_count_64 : decode cM0_count 64 = .ok (.aload_n 0, 1) := by decide +kernel
theorem dM0_count_65 : decode cM0_count 65 = .ok (.getfield 89, 3) := by decide +kernel
theorem dM0_count_68 : decode cM0_count 68 = .ok (.ireturn, 1) := by decide +kernel
