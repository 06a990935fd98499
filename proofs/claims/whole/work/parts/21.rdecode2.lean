theorem d_Model_isReached_12 : decode prog_13_method_29_code 12 = .ok (.iload 4, 2) := by decide +kernel
theorem d_Model_isReached_14 : decode prog_13_method_29_code 14 = .ok (.iadd, 1) := by decide +kernel
theorem d_Model_isReached_15 : decode prog_13_method_29_code 15 = .ok (.if_icmp .gt 53, 3) := by decide +kernel
theorem d_Model_isReached_18 : decode prog_13_method_29_code 18 = .ok (.iload 5, 2) := by decide +kernel
theorem d_Model_isReached_20 : decode prog_13_method_29_code 20 = .ok (.ifCond .ne 48, 3) := by decide +kernel
theorem d_Model_isReached_23 : decode prog_13_method_29_code 23 = .ok (.iload_n 3, 1) := by decide +kernel
theorem d_Model_isReached_24 : decode prog_13_method_29_code 24 = .ok (.iload 4, 2) := by decide +kernel
theorem d_Model_isReached_26 : decode prog_13_method_29_code 26 = .ok (.isub, 1) := by decide +kernel
theorem d_Model_isReached_27 : decode prog_13_method_29_code 27 = .ok (.istore 7, 2) := by decide +kernel
theorem d_Model_isReached_29 : decode prog_13_method_29_code 29 = .ok (.iload 7, 2) := by decide +kernel
theorem d_Model_isReached_31 : decode prog_13_method_29_code 31 = .ok (.iload_n 3, 1) := by decide +kernel
theorem d_Model_isReached_32 : decode prog_13_method_29_code 32 = .ok (.iload 4, 2) := by decide +kernel
theorem d_Model_isReached_34 : decode prog_13_method_29_code 34 = .ok (.iadd, 1) := by decide +kernel
theorem d_Model_isReached_35 : decode prog_13_method_29_code 35 = .ok (.if_icmp .gt 27, 3) := by decide +kernel
theorem d_Model_isReached_38 : decode prog_13_method_29_code 38 = .ok (.iload 5, 2) := by decide +kernel
theorem d_Model_isReached_40 : decode prog_13_method_29_code 40 = .ok (.ifCond .ne 22, 3) := by decide +kernel
theorem d_Model_isReached_43 : decode prog_13_method_29_code 43 = .ok (.aload_n 0, 1) := by decide +kernel
theorem d_Model_isReached_44 : decode prog_13_method_29_code 44 = .ok (.iload_n 1, 1) := by decide +kernel
theorem d_Model_isReached_45 : decode prog_13_method_29_code 45 = .ok (.iload 6, 2) := by decide +kernel
theorem d_Model_isReached_47 : decode prog_13_method_29_code 47 = .ok (.iload 7, 2) := by decide +kernel
theorem d_Model_isReached_49 : decode prog_13_method_29_code 49 = .ok (.iload 4, 2) := by decide +kernel
theorem d_Model_isReached_51 : decode prog_13_method_29_code 51 = .ok (.invokevirtual 136, 3) := by decide +kernel
theorem d_Model_isReached_54 : decode prog_13_method_29_code 54 = .ok (.istore 5, 2) := by decide +kernel
theorem d_Model_isReached_56 : decode prog_13_method_29_code 56 = .ok (.iinc 7 1, 3) := by decide +kernel
theorem d_Model_isReached_59 : decode prog_13_method_29_code 59 = .ok (.goto (-30), 3) := by decide +kernel
theorem d_Model_isReached_62 : decode prog_13_method_29_code 62 = .ok (.iinc 6 1, 3) := by decide +kernel
theorem d_Model_isReached_65 : decode prog_13_method_29_code 65 = .ok (.goto (-56), 3) := by decide +kernel
theorem d_Model_isReached_68 : decode prog_13_method_29_code 68 = .ok (.iload 5, 2) := by decide +kernel
theorem d_Model_isReached_70 : decode prog_13_method_29_code 70 = .ok (.ireturn, 1) := by decide +kernel
theorem d_Model_isRoom_0 : decode prog_13_method_28_code 0 = .ok (.iconst 1, 1) := by decide +kernel
theorem d_Model_isRoom_1 : decode prog_13_method_28_code 1 = .ok (.istore 5, 2) := by decide +kernel
theorem d_Model_isRoom_3 : decode prog_13_method_28_code 3 = .ok (.iload_n 2, 1) := by decide +kernel
theorem d_Model_isRoom_4 : decode prog_13_method_28_code 4 = .ok (.iload 4, 2) := by decide +kernel
theorem d_Model_isRoom_6 : decode prog_13_method_28_code 6 = .ok (.isub, 1) := by decide +kernel
theorem d_Model_isRoom_7 : decode prog_13_method_28_code 7 = .ok (.istore 6, 2) := by decide +kernel
theorem d_Model_isRoom_9 : decode prog_13_method_28_code 9 = .ok (.iload 6, 2) := by decide +kernel
theorem d_Model_isRoom_11 : decode prog_13_method_28_code 11 = .ok (.iload_n 2, 1) := by decide +kernel
theorem d_Model_isRoom_12 : decode prog_13_method_28_code 12 = .ok (.iload 4, 2) := by decide +kernel
theorem d_Model_isRoom_14 : decode prog_13_method_28_code 14 = .ok (.iadd, 1) := by decide +kernel
theorem d_Model_isRoom_15 : decode prog_13_method_28_code 15 = .ok (.if_icmp .gt 51, 3) := by decide +kernel
theorem d_Model_isRoom_18 : decode prog_13_method_28_code 18 = .ok (.iload 5, 2) := by decide +kernel
theorem d_Model_isRoom_20 : decode prog_13_method_28_code 20 = .ok (.ifCond .eq 46, 3) := by decide +kernel
theorem d_Model_isRoom_23 : decode prog_13_method_28_code 23 = .ok (.iload_n 3, 1) := by decide +kernel
theorem d_Model_isRoom_24 : decode prog_13_method_28_code 24 = .ok (.iload 4, 2) := by decide +kernel
theorem d_Model_isRoom_26 : decode prog_13_method_28_code 26 = .ok (.isub, 1) := by decide +kernel
theorem d_Model_isRoom_27 : decode prog_13_method_28_code 27 = .ok (.istore 7, 2) := by decide +kernel
theorem d_Model_isRoom_29 : decode prog_13_method_28_code 29 = .ok (.iload 7, 2) := by decide +kernel
theorem d_Model_isRoom_31 : decode prog_13_method_28_code 31 = .ok (.iload_n 3, 1) := by decide +kernel
theorem d_Model_isRoom_32 : decode prog_13_method_28_code 32 = .ok (.iload 4, 2) := by decide +kernel
theorem d_Model_isRoom_34 : decode prog_13_method_28_code 34 = .ok (.iadd, 1) := by decide +kernel
theorem d_Model_isRoom_35 : decode prog_13_method_28_code 35 = .ok (.if_icmp .gt 25, 3) := by decide +kernel
theorem d_Model_isRoom_38 : decode prog_13_method_28_code 38 = .ok (.iload 5, 2) := by decide +kernel
theorem d_Model_isRoom_40 : decode prog_13_method_28_code 40 = .ok (.ifCond .eq 20, 3) := by decide +kernel
theorem d_Model_isRoom_43 : decode prog_13_method_28_code 43 = .ok (.aload_n 0, 1) := by decide +kernel
theorem d_Model_isRoom_44 : decode prog_13_method_28_code 44 = .ok (.iload_n 1, 1) := by decide +kernel
theorem d_Model_isRoom_45 : decode prog_13_method_28_code 45 = .ok (.iload 6, 2) := by decide +kernel
theorem d_Model_isRoom_47 : decode prog_13_method_28_code 47 = .ok (.iload 7, 2) := by decide +kernel
theorem d_Model_isRoom_49 : decode prog_13_method_28_code 49 = .ok (.invokevirtual 122, 3) := by decide +kernel
theorem d_Model_isRoom_52 : decode prog_13_method_28_code 52 = .ok (.istore 5, 2) := by decide +kernel
theorem d_Model_isRoom_54 : decode prog_13_method_28_code 54 = .ok (.iinc 7 1, 3) := by decide +kernel
theorem d_Model_isRoom_57 : decode prog_13_method_28_code 57 = .ok (.goto (-28), 3) := by decide +kernel
theorem d_Model_isRoom_60 : decode prog_13_method_28_code 60 = .ok (.iinc 6 1, 3) := by decide +kernel
theorem d_Model_isRoom_63 : decode prog_13_method_28_code 63 = .ok (.goto (-54), 3) := by decide +kernel
theorem d_Model_isRoom_66 : decode prog_13_method_28_code 66 = .ok (.iload 5, 2) := by decide +kernel
theorem d_Model_isRoom_68 : decode prog_13_method_28_code 68 = .ok (.ireturn, 1) := by decide +kernel
theorem d_Model_join_0 : decode prog_13_method_14_code 0 = .ok (.aload_n 0, 1) := by decide +kernel
theorem d_Model_join_1 : decode prog_13_method_14_code 1 = .ok (.getfield 56, 3) := by decide +kernel
theorem d_Model_join_4 : decode prog_13_method_14_code 4 = .ok (.aload_n 0, 1) := by decide +kernel
theorem d_Model_join_5 : decode prog_13_method_14_code 5 = .ok (.getfield 60, 3) := by decide +kernel
theorem d_Model_join_8 : decode prog_13_method_14_code 8 = .ok (.imul, 1) := by decide +kernel
theorem d_Model_join_9 : decode prog_13_method_14_code 9 = .ok (.istore_n 2, 1) := by decide +kernel
theorem d_Model_join_10 : decode prog_13_method_14_code 10 = .ok (.iconst 0, 1) := by decide +kernel
theorem d_Model_join_11 : decode prog_13_method_14_code 11 = .ok (.istore_n 3, 1) := by decide +kernel
theorem d_Model_join_12 : decode prog_13_method_14_code 12 = .ok (.iload_n 3, 1) := by decide +kernel
theorem d_Model_join_13 : decode prog_13_method_14_code 13 = .ok (.iload_n 2, 1) := by decide +kernel
theorem d_Model_join_14 : decode prog_13_method_14_code 14 = .ok (.if_icmp .ge 16, 3) := by decide +kernel
theorem d_Model_join_17 : decode prog_13_method_14_code 17 = .ok (.aload_n 0, 1) := by decide +kernel
theorem d_Model_join_18 : decode prog_13_method_14_code 18 = .ok (.getfield 28, 3) := by decide +kernel
theorem d_Model_join_21 : decode prog_13_method_14_code 21 = .ok (.iload_n 3, 1) := by decide +kernel
theorem d_Model_join_22 : decode prog_13_method_14_code 22 = .ok (.iconst 0, 1) := by decide +kernel
theorem d_Model_join_23 : decode prog_13_method_14_code 23 = .ok (.iastore, 1) := by decide +kernel
theorem d_Model_join_24 : decode prog_13_method_14_code 24 = .ok (.iinc 3 1, 3) := by decide +kernel
theorem d_Model_join_27 : decode prog_13_method_14_code 27 = .ok (.goto (-15), 3) := by decide +kernel
theorem d_Model_join_30 : decode prog_13_method_14_code 30 = .ok (.iconst 0, 1) := by decide +kernel
theorem d_Model_join_31 : decode prog_13_method_14_code 31 = .ok (.istore_n 3, 1) := by decide +kernel
theorem d_Model_join_32 : decode prog_13_method_14_code 32 = .ok (.iload_n 3, 1) := by decide +kernel
theorem d_Model_join_33 : decode prog_13_method_14_code 33 = .ok (.iload_n 2, 1) := by decide +kernel
theorem d_Model_join_34 : decode prog_13_method_14_code 34 = .ok (.if_icmp .ge 75, 3) := by decide +kernel
theorem d_Model_join_37 : decode prog_13_method_14_code 37 = .ok (.iconst 0, 1) := by decide +kernel
theorem d_Model_join_38 : decode prog_13_method_14_code 38 = .ok (.istore 4, 2) := by decide +kernel
theorem d_Model_join_40 : decode prog_13_method_14_code 40 = .ok (.iload 4, 2) := by decide +kernel
theorem d_Model_join_42 : decode prog_13_method_14_code 42 = .ok (.iconst 4, 1) := by decide +kernel
theorem d_Model_join_43 : decode prog_13_method_14_code 43 = .ok (.if_icmp .ge 60, 3) := by decide +kernel
theorem d_Model_join_46 : decode prog_13_method_14_code 46 = .ok (.aload_n 0, 1) := by decide +kernel
theorem d_Model_join_47 : decode prog_13_method_14_code 47 = .ok (.iload_n 3, 1) := by decide +kernel
theorem d_Model_join_48 : decode prog_13_method_14_code 48 = .ok (.iload 4, 2) := by decide +kernel
theorem d_Model_join_50 : decode prog_13_method_14_code 50 = .ok (.invokevirtual 84, 3) := by decide +kernel
theorem d_Model_join_53 : decode prog_13_method_14_code 53 = .ok (.istore 5, 2) := by decide +kernel
theorem d_Model_join_55 : decode prog_13_method_14_code 55 = .ok (.aload_n 0, 1) := by decide +kernel
theorem d_Model_join_56 : decode prog_13_method_14_code 56 = .ok (.getfield 19, 3) := by decide +kernel
theorem d_Model_join_59 : decode prog_13_method_14_code 59 = .ok (.iload_n 3, 1) := by decide +kernel
theorem d_Model_join_60 : decode prog_13_method_14_code 60 = .ok (.iaload, 1) := by decide +kernel
theorem d_Model_join_61 : decode prog_13_method_14_code 61 = .ok (.iload_n 1, 1) := by decide +kernel
theorem d_Model_join_62 : decode prog_13_method_14_code 62 = .ok (.if_icmp .ne 35, 3) := by decide +kernel
theorem d_Model_join_65 : decode prog_13_method_14_code 65 = .ok (.iload 5, 2) := by decide +kernel
theorem d_Model_join_67 : decode prog_13_method_14_code 67 = .ok (.ifCond .lt 30, 3) := by decide +kernel
theorem d_Model_join_70 : decode prog_13_method_14_code 70 = .ok (.aload_n 0, 1) := by decide +kernel
theorem d_Model_join_71 : decode prog_13_method_14_code 71 = .ok (.getfield 19, 3) := by decide +kernel
theorem d_Model_join_74 : decode prog_13_method_14_code 74 = .ok (.iload 5, 2) := by decide +kernel
theorem d_Model_join_76 : decode prog_13_method_14_code 76 = .ok (.iaload, 1) := by decide +kernel
theorem d_Model_join_77 : decode prog_13_method_14_code 77 = .ok (.iload_n 1, 1) := by decide +kernel
theorem d_Model_join_78 : decode prog_13_method_14_code 78 = .ok (.if_icmp .eq 19, 3) := by decide +kernel
theorem d_Model_join_81 : decode prog_13_method_14_code 81 = .ok (.aload_n 0, 1) := by decide +kernel
theorem d_Model_join_82 : decode prog_13_method_14_code 82 = .ok (.getfield 28, 3) := by decide +kernel
theorem d_Model_join_85 : decode prog_13_method_14_code 85 = .ok (.aload_n 0, 1) := by decide +kernel
theorem d_Model_join_86 : decode prog_13_method_14_code 86 = .ok (.getfield 19, 3) := by decide +kernel
theorem d_Model_join_89 : decode prog_13_method_14_code 89 = .ok (.iload 5, 2) := by decide +kernel
theorem d_Model_join_91 : decode prog_13_method_14_code 91 = .ok (.iaload, 1) := by decide +kernel
theorem d_Model_join_92 : decode prog_13_method_14_code 92 = .ok (.dup2, 1) := by decide +kernel
theorem d_Model_join_93 : decode prog_13_method_14_code 93 = .ok (.iaload, 1) := by decide +kernel
theorem d_Model_join_94 : decode prog_13_method_14_code 94 = .ok (.iconst 1, 1) := by decide +kernel
theorem d_Model_join_95 : decode prog_13_method_14_code 95 = .ok (.iadd, 1) := by decide +kernel
theorem d_Model_join_96 : decode prog_13_method_14_code 96 = .ok (.iastore, 1) := by decide +kernel
theorem d_Model_join_97 : decode prog_13_method_14_code 97 = .ok (.iinc 4 1, 3) := by decide +kernel
theorem d_Model_join_100 : decode prog_13_method_14_code 100 = .ok (.goto (-60), 3) := by decide +kernel
theorem d_Model_join_103 : decode prog_13_method_14_code 103 = .ok (.iinc 3 1, 3) := by decide +kernel
theorem d_Model_join_106 : decode prog_13_method_14_code 106 = .ok (.goto (-74), 3) := by decide +kernel
theorem d_Model_join_109 : decode prog_13_method_14_code 109 = .ok (.iconst 0, 1) := by decide +kernel
theorem d_Model_join_110 : decode prog_13_method_14_code 110 = .ok (.istore_n 3, 1) := by decide +kernel
theorem d_Model_join_111 : decode prog_13_method_14_code 111 = .ok (.iconst 1, 1) := by decide +kernel
theorem d_Model_join_112 : decode prog_13_method_14_code 112 = .ok (.istore 4, 2) := by decide +kernel
theorem d_Model_join_114 : decode prog_13_method_14_code 114 = .ok (.iload 4, 2) := by decide +kernel
theorem d_Model_join_116 : decode prog_13_method_14_code 116 = .ok (.iload_n 2, 1) := by decide +kernel
theorem d_Model_join_117 : decode prog_13_method_14_code 117 = .ok (.if_icmp .ge 32, 3) := by decide +kernel
theorem d_Model_join_120 : decode prog_13_method_14_code 120 = .ok (.aload_n 0, 1) := by decide +kernel
theorem d_Model_join_121 : decode prog_13_method_14_code 121 = .ok (.getfield 28, 3) := by decide +kernel
theorem d_Model_join_124 : decode prog_13_method_14_code 124 = .ok (.iload 4, 2) := by decide +kernel
theorem d_Model_join_126 : decode prog_13_method_14_code 126 = .ok (.iaload, 1) := by decide +kernel
theorem d_Model_join_127 : decode prog_13_method_14_code 127 = .ok (.aload_n 0, 1) := by decide +kernel
theorem d_Model_join_128 : decode prog_13_method_14_code 128 = .ok (.getfield 28, 3) := by decide +kernel
theorem d_Model_join_131 : decode prog_13_method_14_code 131 = .ok (.iload_n 3, 1) := by decide +kernel
theorem d_Model_join_132 : decode prog_13_method_14_code 132 = .ok (.iaload, 1) := by decide +kernel
theorem d_Model_join_133 : decode prog_13_method_14_code 133 = .ok (.if_icmp .le 8, 3) := by decide +kernel
theorem d_Model_join_136 : decode prog_13_method_14_code 136 = .ok (.iload 4, 2) := by decide +kernel
theorem d_Model_join_138 : decode prog_13_method_14_code 138 = .ok (.goto 4, 3) := by decide +kernel
theorem d_Model_join_141 : decode prog_13_method_14_code 141 = .ok (.iload_n 3, 1) := by decide +kernel
theorem d_Model_join_142 : decode prog_13_method_14_code 142 = .ok (.istore_n 3, 1) := by decide +kernel
theorem d_Model_join_143 : decode prog_13_method_14_code 143 = .ok (.iinc 4 1, 3) := by decide +kernel
theorem d_Model_join_146 : decode prog_13_method_14_code 146 = .ok (.goto (-32), 3) := by decide +kernel
theorem d_Model_join_149 : decode prog_13_method_14_code 149 = .ok (.aload_n 0, 1) := by decide +kernel
theorem d_Model_join_150 : decode prog_13_method_14_code 150 = .ok (.getfield 16, 3) := by decide +kernel
theorem d_Model_join_153 : decode prog_13_method_14_code 153 = .ok (.iload_n 3, 1) := by decide +kernel
theorem d_Model_join_154 : decode prog_13_method_14_code 154 = .ok (.iaload, 1) := by decide +kernel
theorem d_Model_join_155 : decode prog_13_method_14_code 155 = .ok (.istore 4, 2) := by decide +kernel
theorem d_Model_join_157 : decode prog_13_method_14_code 157 = .ok (.iconst 0, 1) := by decide +kernel
theorem d_Model_join_158 : decode prog_13_method_14_code 158 = .ok (.istore 5, 2) := by decide +kernel
theorem d_Model_join_160 : decode prog_13_method_14_code 160 = .ok (.iload 5, 2) := by decide +kernel
theorem d_Model_join_162 : decode prog_13_method_14_code 162 = .ok (.iload_n 2, 1) := by decide +kernel
theorem d_Model_join_163 : decode prog_13_method_14_code 163 = .ok (.if_icmp .ge 39, 3) := by decide +kernel
theorem d_Model_join_166 : decode prog_13_method_14_code 166 = .ok (.aload_n 0, 1) := by decide +kernel
theorem d_Model_join_167 : decode prog_13_method_14_code 167 = .ok (.getfield 16, 3) := by decide +kernel
theorem d_Model_join_170 : decode prog_13_method_14_code 170 = .ok (.iload 5, 2) := by decide +kernel
theorem d_Model_join_172 : decode prog_13_method_14_code 172 = .ok (.aload_n 0, 1) := by decide +kernel
theorem d_Model_join_173 : decode prog_13_method_14_code 173 = .ok (.getfield 19, 3) := by decide +kernel
theorem d_Model_join_176 : decode prog_13_method_14_code 176 = .ok (.iload 5, 2) := by decide +kernel
theorem d_Model_join_178 : decode prog_13_method_14_code 178 = .ok (.iaload, 1) := by decide +kernel
theorem d_Model_join_179 : decode prog_13_method_14_code 179 = .ok (.iload_n 1, 1) := by decide +kernel
theorem d_Model_join_180 : decode prog_13_method_14_code 180 = .ok (.if_icmp .ne 8, 3) := by decide +kernel
theorem d_Model_join_183 : decode prog_13_method_14_code 183 = .ok (.iload 4, 2) := by decide +kernel
theorem d_Model_join_185 : decode prog_13_method_14_code 185 = .ok (.goto 10, 3) := by decide +kernel
theorem d_Model_join_188 : decode prog_13_method_14_code 188 = .ok (.aload_n 0, 1) := by decide +kernel
theorem d_Model_join_189 : decode prog_13_method_14_code 189 = .ok (.getfield 16, 3) := by decide +kernel
theorem d_Model_join_192 : decode prog_13_method_14_code 192 = .ok (.iload 5, 2) := by decide +kernel
theorem d_Model_join_194 : decode prog_13_method_14_code 194 = .ok (.iaload, 1) := by decide +kernel
theorem d_Model_join_195 : decode prog_13_method_14_code 195 = .ok (.iastore, 1) := by decide +kernel
theorem d_Model_join_196 : decode prog_13_method_14_code 196 = .ok (.iinc 5 1, 3) := by decide +kernel
theorem d_Model_join_199 : decode prog_13_method_14_code 199 = .ok (.goto (-39), 3) := by decide +kernel
theorem d_Model_join_202 : decode prog_13_method_14_code 202 = .ok (.return_, 1) := by decide +kernel
theorem d_Model_joined_0 : decode prog_13_method_22_code 0 = .ok (.aload_n 0, 1) := by decide +kernel
theorem d_Model_joined_1 : decode prog_13_method_22_code 1 = .ok (.iload_n 1, 1) := by decide +kernel
theorem d_Model_joined_2 : decode prog_13_method_22_code 2 = .ok (.invokevirtual 116, 3) := by decide +kernel
theorem d_Model_joined_5 : decode prog_13_method_22_code 5 = .ok (.ifCond .ne 11, 3) := by decide +kernel
theorem d_Model_joined_8 : decode prog_13_method_22_code 8 = .ok (.aload_n 0, 1) := by decide +kernel
theorem d_Model_joined_9 : decode prog_13_method_22_code 9 = .ok (.iload_n 2, 1) := by decide +kernel
theorem d_Model_joined_10 : decode prog_13_method_22_code 10 = .ok (.invokevirtual 116, 3) := by decide +kernel
theorem d_Model_joined_13 : decode prog_13_method_22_code 13 = .ok (.ifCond .eq 5, 3) := by decide +kernel
theorem d_Model_joined_16 : decode prog_13_method_22_code 16 = .ok (.iconst 0, 1) := by decide +kernel
theorem d_Model_joined_17 : decode prog_13_method_22_code 17 = .ok (.ireturn, 1) := by decide +kernel
theorem d_Model_joined_18 : decode prog_13_method_22_code 18 = .ok (.iconst 0, 1) := by decide +kernel
theorem d_Model_joined_19 : decode prog_13_method_22_code 19 = .ok (.istore_n 3, 1) := by decide +kernel
theorem d_Model_joined_20 : decode prog_13_method_22_code 20 = .ok (.iconst 0, 1) := by decide +kernel
theorem d_Model_joined_21 : decode prog_13_method_22_code 21 = .ok (.istore 4, 2) := by decide +kernel
theorem d_Model_joined_23 : decode prog_13_method_22_code 23 = .ok (.iload 4, 2) := by decide +kernel
theorem d_Model_joined_25 : decode prog_13_method_22_code 25 = .ok (.aload_n 0, 1) := by decide +kernel
theorem d_Model_joined_26 : decode prog_13_method_22_code 26 = .ok (.getfield 56, 3) := by decide +kernel
theorem d_Model_joined_29 : decode prog_13_method_22_code 29 = .ok (.aload_n 0, 1) := by decide +kernel
theorem d_Model_joined_30 : decode prog_13_method_22_code 30 = .ok (.getfield 60, 3) := by decide +kernel
theorem d_Model_joined_33 : decode prog_13_method_22_code 33 = .ok (.imul, 1) := by decide +kernel
theorem d_Model_joined_34 : decode prog_13_method_22_code 34 = .ok (.if_icmp .ge 84, 3) := by decide +kernel
theorem d_Model_joined_37 : decode prog_13_method_22_code 37 = .ok (.iconst 0, 1) := by decide +kernel
theorem d_Model_joined_38 : decode prog_13_method_22_code 38 = .ok (.istore 5, 2) := by decide +kernel
theorem d_Model_joined_40 : decode prog_13_method_22_code 40 = .ok (.iload 5, 2) := by decide +kernel
theorem d_Model_joined_42 : decode prog_13_method_22_code 42 = .ok (.iconst 4, 1) := by decide +kernel
theorem d_Model_joined_43 : decode prog_13_method_22_code 43 = .ok (.if_icmp .ge 69, 3) := by decide +kernel
theorem d_Model_joined_46 : decode prog_13_method_22_code 46 = .ok (.aload_n 0, 1) := by decide +kernel
theorem d_Model_joined_47 : decode prog_13_method_22_code 47 = .ok (.iload 4, 2) := by decide +kernel
theorem d_Model_joined_49 : decode prog_13_method_22_code 49 = .ok (.iload 5, 2) := by decide +kernel
theorem d_Model_joined_51 : decode prog_13_method_22_code 51 = .ok (.invokevirtual 84, 3) := by decide +kernel
theorem d_Model_joined_54 : decode prog_13_method_22_code 54 = .ok (.istore 6, 2) := by decide +kernel
theorem d_Model_joined_56 : decode prog_13_method_22_code 56 = .ok (.iload_n 1, 1) := by decide +kernel
theorem d_Model_joined_57 : decode prog_13_method_22_code 57 = .ok (.iload_n 2, 1) := by decide +kernel
theorem d_Model_joined_58 : decode prog_13_method_22_code 58 = .ok (.if_icmp .eq 46, 3) := by decide +kernel
theorem d_Model_joined_61 : decode prog_13_method_22_code 61 = .ok (.iload 6, 2) := by decide +kernel
theorem d_Model_joined_63 : decode prog_13_method_22_code 63 = .ok (.ifCond .lt 41, 3) := by decide +kernel
theorem d_Model_joined_66 : decode prog_13_method_22_code 66 = .ok (.aload_n 0, 1) := by decide +kernel
theorem d_Model_joined_67 : decode prog_13_method_22_code 67 = .ok (.getfield 19, 3) := by decide +kernel
theorem d_Model_joined_70 : decode prog_13_method_22_code 70 = .ok (.iload 4, 2) := by decide +kernel
theorem d_Model_joined_72 : decode prog_13_method_22_code 72 = .ok (.iaload, 1) := by decide +kernel
theorem d_Model_joined_73 : decode prog_13_method_22_code 73 = .ok (.aload_n 0, 1) := by decide +kernel
theorem d_Model_joined_74 : decode prog_13_method_22_code 74 = .ok (.getfield 22, 3) := by decide +kernel
theorem d_Model_joined_77 : decode prog_13_method_22_code 77 = .ok (.iload_n 1, 1) := by decide +kernel
theorem d_Model_joined_78 : decode prog_13_method_22_code 78 = .ok (.iaload, 1) := by decide +kernel
theorem d_Model_joined_79 : decode prog_13_method_22_code 79 = .ok (.if_icmp .ne 25, 3) := by decide +kernel
theorem d_Model_joined_82 : decode prog_13_method_22_code 82 = .ok (.aload_n 0, 1) := by decide +kernel
theorem d_Model_joined_83 : decode prog_13_method_22_code 83 = .ok (.getfield 19, 3) := by decide +kernel
theorem d_Model_joined_86 : decode prog_13_method_22_code 86 = .ok (.iload 6, 2) := by decide +kernel
theorem d_Model_joined_88 : decode prog_13_method_22_code 88 = .ok (.iaload, 1) := by decide +kernel
theorem d_Model_joined_89 : decode prog_13_method_22_code 89 = .ok (.aload_n 0, 1) := by decide +kernel
theorem d_Model_joined_90 : decode prog_13_method_22_code 90 = .ok (.getfield 22, 3) := by decide +kernel
theorem d_Model_joined_93 : decode prog_13_method_22_code 93 = .ok (.iload_n 2, 1) := by decide +kernel
theorem d_Model_joined_94 : decode prog_13_method_22_code 94 = .ok (.iaload, 1) := by decide +kernel
theorem d_Model_joined_95 : decode prog_13_method_22_code 95 = .ok (.if_icmp .ne 9, 3) := by decide +kernel
theorem d_Model_joined_98 : decode prog_13_method_22_code 98 = .ok (.iload_n 3, 1) := by decide +kernel
theorem d_Model_joined_99 : decode prog_13_method_22_code 99 = .ok (.iconst 1, 1) := by decide +kernel
theorem d_Model_joined_100 : decode prog_13_method_22_code 100 = .ok (.iadd, 1) := by decide +kernel
theorem d_Model_joined_101 : decode prog_13_method_22_code 101 = .ok (.goto 4, 3) := by decide +kernel
theorem d_Model_joined_104 : decode prog_13_method_22_code 104 = .ok (.iload_n 3, 1) := by decide +kernel
theorem d_Model_joined_105 : decode prog_13_method_22_code 105 = .ok (.istore_n 3, 1) := by decide +kernel
theorem d_Model_joined_106 : decode prog_13_method_22_code 106 = .ok (.iinc 5 1, 3) := by decide +kernel
theorem d_Model_joined_109 : decode prog_13_method_22_code 109 = .ok (.goto (-69), 3) := by decide +kernel
theorem d_Model_joined_112 : decode prog_13_method_22_code 112 = .ok (.iinc 4 1, 3) := by decide +kernel
theorem d_Model_joined_115 : decode prog_13_method_22_code 115 = .ok (.goto (-92), 3) := by decide +kernel
theorem d_Model_joined_118 : decode prog_13_method_22_code 118 = .ok (.iload_n 3, 1) := by decide +kernel
theorem d_Model_joined_119 : decode prog_13_method_22_code 119 = .ok (.ireturn, 1) := by decide +kernel
theorem d_Model_kind_0 : decode prog_13_method_7_code 0 = .ok (.aload_n 0, 1) := by decide +kernel
theorem d_Model_kind_1 : decode prog_13_method_7_code 1 = .ok (.iload_n 1, 1) := by decide +kernel
theorem d_Model_kind_2 : decode prog_13_method_7_code 2 = .ok (.ifCond .lt 11, 3) := by decide +kernel
theorem d_Model_kind_5 : decode prog_13_method_7_code 5 = .ok (.iload_n 1, 1) := by decide +kernel
theorem d_Model_kind_6 : decode prog_13_method_7_code 6 = .ok (.aload_n 0, 1) := by decide +kernel
theorem d_Model_kind_7 : decode prog_13_method_7_code 7 = .ok (.getfield 63, 3) := by decide +kernel
theorem d_Model_kind_10 : decode prog_13_method_7_code 10 = .ok (.if_icmp .lt 7, 3) := by decide +kernel
theorem d_Model_kind_13 : decode prog_13_method_7_code 13 = .ok (.iconst 1, 1) := by decide +kernel
theorem d_Model_kind_14 : decode prog_13_method_7_code 14 = .ok (.goto 30, 3) := by decide +kernel
theorem d_Model_kind_17 : decode prog_13_method_7_code 17 = .ok (.iload_n 2, 1) := by decide +kernel
theorem d_Model_kind_18 : decode prog_13_method_7_code 18 = .ok (.invokestatic 73, 3) := by decide +kernel
theorem d_Model_kind_21 : decode prog_13_method_7_code 21 = .ok (.ifCond .eq 22, 3) := by decide +kernel
theorem d_Model_kind_24 : decode prog_13_method_7_code 24 = .ok (.iload_n 3, 1) := by decide +kernel
theorem d_Model_kind_25 : decode prog_13_method_7_code 25 = .ok (.invokestatic 73, 3) := by decide +kernel
theorem d_Model_kind_28 : decode prog_13_method_7_code 28 = .ok (.ifCond .eq 15, 3) := by decide +kernel
theorem d_Model_kind_31 : decode prog_13_method_7_code 31 = .ok (.iload 4, 2) := by decide +kernel
theorem d_Model_kind_33 : decode prog_13_method_7_code 33 = .ok (.invokestatic 73, 3) := by decide +kernel
theorem d_Model_kind_36 : decode prog_13_method_7_code 36 = .ok (.ifCond .eq 7, 3) := by decide +kernel
theorem d_Model_kind_39 : decode prog_13_method_7_code 39 = .ok (.iconst 0, 1) := by decide +kernel
theorem d_Model_kind_40 : decode prog_13_method_7_code 40 = .ok (.goto 4, 3) := by decide +kernel
theorem d_Model_kind_43 : decode prog_13_method_7_code 43 = .ok (.iconst 2, 1) := by decide +kernel
theorem d_Model_kind_44 : decode prog_13_method_7_code 44 = .ok (.putfield 66, 3) := by decide +kernel
theorem d_Model_kind_47 : decode prog_13_method_7_code 47 = .ok (.aload_n 0, 1) := by decide +kernel
theorem d_Model_kind_48 : decode prog_13_method_7_code 48 = .ok (.getfield 66, 3) := by decide +kernel
theorem d_Model_kind_51 : decode prog_13_method_7_code 51 = .ok (.ifCond .le 5, 3) := by decide +kernel
theorem d_Model_kind_54 : decode prog_13_method_7_code 54 = .ok (.iconst 0, 1) := by decide +kernel
theorem d_Model_kind_55 : decode prog_13_method_7_code 55 = .ok (.ireturn, 1) := by decide +kernel
theorem d_Model_kind_56 : decode prog_13_method_7_code 56 = .ok (.aload_n 0, 1) := by decide +kernel
theorem d_Model_kind_57 : decode prog_13_method_7_code 57 = .ok (.getfield 13, 3) := by decide +kernel
theorem d_Model_kind_60 : decode prog_13_method_7_code 60 = .ok (.iconst 3, 1) := by decide +kernel
theorem d_Model_kind_61 : decode prog_13_method_7_code 61 = .ok (.iload_n 1, 1) := by decide +kernel
theorem d_Model_kind_62 : decode prog_13_method_7_code 62 = .ok (.imul, 1) := by decide +kernel
theorem d_Model_kind_63 : decode prog_13_method_7_code 63 = .ok (.iaload, 1) := by decide +kernel
theorem d_Model_kind_64 : decode prog_13_method_7_code 64 = .ok (.iload_n 2, 1) := by decide +kernel
theorem d_Model_kind_65 : decode prog_13_method_7_code 65 = .ok (.if_icmp .ne 34, 3) := by decide +kernel
theorem d_Model_kind_68 : decode prog_13_method_7_code 68 = .ok (.aload_n 0, 1) := by decide +kernel
theorem d_Model_kind_69 : decode prog_13_method_7_code 69 = .ok (.getfield 13, 3) := by decide +kernel
theorem d_Model_kind_72 : decode prog_13_method_7_code 72 = .ok (.iconst 3, 1) := by decide +kernel
theorem d_Model_kind_73 : decode prog_13_method_7_code 73 = .ok (.iload_n 1, 1) := by decide +kernel
theorem d_Model_kind_74 : decode prog_13_method_7_code 74 = .ok (.imul, 1) := by decide +kernel
theorem d_Model_kind_75 : decode prog_13_method_7_code 75 = .ok (.iconst 1, 1) := by decide +kernel
theorem d_Model_kind_76 : decode prog_13_method_7_code 76 = .ok (.iadd, 1) := by decide +kernel
theorem d_Model_kind_77 : decode prog_13_method_7_code 77 = .ok (.iaload, 1) := by decide +kernel
theorem d_Model_kind_78 : decode prog_13_method_7_code 78 = .ok (.iload_n 3, 1) := by decide +kernel
theorem d_Model_kind_79 : decode prog_13_method_7_code 79 = .ok (.if_icmp .ne 20, 3) := by decide +kernel
theorem d_Model_kind_82 : decode prog_13_method_7_code 82 = .ok (.aload_n 0, 1) := by decide +kernel
theorem d_Model_kind_83 : decode prog_13_method_7_code 83 = .ok (.getfield 13, 3) := by decide +kernel
theorem d_Model_kind_86 : decode prog_13_method_7_code 86 = .ok (.iconst 3, 1) := by decide +kernel
theorem d_Model_kind_87 : decode prog_13_method_7_code 87 = .ok (.iload_n 1, 1) := by decide +kernel
theorem d_Model_kind_88 : decode prog_13_method_7_code 88 = .ok (.imul, 1) := by decide +kernel
theorem d_Model_kind_89 : decode prog_13_method_7_code 89 = .ok (.iconst 2, 1) := by decide +kernel
theorem d_Model_kind_90 : decode prog_13_method_7_code 90 = .ok (.iadd, 1) := by decide +kernel
theorem d_Model_kind_91 : decode prog_13_method_7_code 91 = .ok (.iaload, 1) := by decide +kernel
theorem d_Model_kind_92 : decode prog_13_method_7_code 92 = .ok (.iload 4, 2) := by decide +kernel
theorem d_Model_kind_94 : decode prog_13_method_7_code 94 = .ok (.if_icmp .ne 5, 3) := by decide +kernel
theorem d_Model_kind_97 : decode prog_13_method_7_code 97 = .ok (.iconst 0, 1) := by decide +kernel
