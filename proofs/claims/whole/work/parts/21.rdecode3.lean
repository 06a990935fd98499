theorem d_Model_kind_98 : decode prog_13_method_7_code 98 = .ok (.ireturn, 1) := by decide +kernel
theorem d_Model_kind_99 : decode prog_13_method_7_code 99 = .ok (.aload_n 0, 1) := by decide +kernel
theorem d_Model_kind_100 : decode prog_13_method_7_code 100 = .ok (.getfield 13, 3) := by decide +kernel
theorem d_Model_kind_103 : decode prog_13_method_7_code 103 = .ok (.iconst 3, 1) := by decide +kernel
theorem d_Model_kind_104 : decode prog_13_method_7_code 104 = .ok (.iload_n 1, 1) := by decide +kernel
theorem d_Model_kind_105 : decode prog_13_method_7_code 105 = .ok (.imul, 1) := by decide +kernel
theorem d_Model_kind_106 : decode prog_13_method_7_code 106 = .ok (.iload_n 2, 1) := by decide +kernel
theorem d_Model_kind_107 : decode prog_13_method_7_code 107 = .ok (.iastore, 1) := by decide +kernel
theorem d_Model_kind_108 : decode prog_13_method_7_code 108 = .ok (.aload_n 0, 1) := by decide +kernel
theorem d_Model_kind_109 : decode prog_13_method_7_code 109 = .ok (.getfield 13, 3) := by decide +kernel
theorem d_Model_kind_112 : decode prog_13_method_7_code 112 = .ok (.iconst 3, 1) := by decide +kernel
theorem d_Model_kind_113 : decode prog_13_method_7_code 113 = .ok (.iload_n 1, 1) := by decide +kernel
theorem d_Model_kind_114 : decode prog_13_method_7_code 114 = .ok (.imul, 1) := by decide +kernel
theorem d_Model_kind_115 : decode prog_13_method_7_code 115 = .ok (.iconst 1, 1) := by decide +kernel
theorem d_Model_kind_116 : decode prog_13_method_7_code 116 = .ok (.iadd, 1) := by decide +kernel
theorem d_Model_kind_117 : decode prog_13_method_7_code 117 = .ok (.iload_n 3, 1) := by decide +kernel
theorem d_Model_kind_118 : decode prog_13_method_7_code 118 = .ok (.iastore, 1) := by decide +kernel
theorem d_Model_kind_119 : decode prog_13_method_7_code 119 = .ok (.aload_n 0, 1) := by decide +kernel
theorem d_Model_kind_120 : decode prog_13_method_7_code 120 = .ok (.getfield 13, 3) := by decide +kernel
theorem d_Model_kind_123 : decode prog_13_method_7_code 123 = .ok (.iconst 3, 1) := by decide +kernel
theorem d_Model_kind_124 : decode prog_13_method_7_code 124 = .ok (.iload_n 1, 1) := by decide +kernel
theorem d_Model_kind_125 : decode prog_13_method_7_code 125 = .ok (.imul, 1) := by decide +kernel
theorem d_Model_kind_126 : decode prog_13_method_7_code 126 = .ok (.iconst 2, 1) := by decide +kernel
theorem d_Model_kind_127 : decode prog_13_method_7_code 127 = .ok (.iadd, 1) := by decide +kernel
theorem d_Model_kind_128 : decode prog_13_method_7_code 128 = .ok (.iload 4, 2) := by decide +kernel
theorem d_Model_kind_130 : decode prog_13_method_7_code 130 = .ok (.iastore, 1) := by decide +kernel
theorem d_Model_kind_131 : decode prog_13_method_7_code 131 = .ok (.aload_n 0, 1) := by decide +kernel
theorem d_Model_kind_132 : decode prog_13_method_7_code 132 = .ok (.iconst 0, 1) := by decide +kernel
theorem d_Model_kind_133 : decode prog_13_method_7_code 133 = .ok (.putfield 77, 3) := by decide +kernel
theorem d_Model_kind_136 : decode prog_13_method_7_code 136 = .ok (.iconst 1, 1) := by decide +kernel
theorem d_Model_kind_137 : decode prog_13_method_7_code 137 = .ok (.ireturn, 1) := by decide +kernel
theorem d_Model_lay_0 : decode prog_13_method_35_code 0 = .ok (.aload_n 0, 1) := by decide +kernel
theorem d_Model_lay_1 : decode prog_13_method_35_code 1 = .ok (.iload_n 1, 1) := by decide +kernel
theorem d_Model_lay_2 : decode prog_13_method_35_code 2 = .ok (.iconst 2, 1) := by decide +kernel
theorem d_Model_lay_3 : decode prog_13_method_35_code 3 = .ok (.invokevirtual 113, 3) := by decide +kernel
theorem d_Model_lay_6 : decode prog_13_method_35_code 6 = .ok (.aload_n 0, 1) := by decide +kernel
theorem d_Model_lay_7 : decode prog_13_method_35_code 7 = .ok (.iload_n 1, 1) := by decide +kernel
theorem d_Model_lay_8 : decode prog_13_method_35_code 8 = .ok (.iconst 0, 1) := by decide +kernel
theorem d_Model_lay_9 : decode prog_13_method_35_code 9 = .ok (.invokevirtual 113, 3) := by decide +kernel
theorem d_Model_lay_12 : decode prog_13_method_35_code 12 = .ok (.isub, 1) := by decide +kernel
theorem d_Model_lay_13 : decode prog_13_method_35_code 13 = .ok (.iconst 1, 1) := by decide +kernel
theorem d_Model_lay_14 : decode prog_13_method_35_code 14 = .ok (.iadd, 1) := by decide +kernel
theorem d_Model_lay_15 : decode prog_13_method_35_code 15 = .ok (.istore 4, 2) := by decide +kernel
theorem d_Model_lay_17 : decode prog_13_method_35_code 17 = .ok (.aload_n 0, 1) := by decide +kernel
theorem d_Model_lay_18 : decode prog_13_method_35_code 18 = .ok (.iload_n 1, 1) := by decide +kernel
theorem d_Model_lay_19 : decode prog_13_method_35_code 19 = .ok (.iconst 3, 1) := by decide +kernel
theorem d_Model_lay_20 : decode prog_13_method_35_code 20 = .ok (.invokevirtual 113, 3) := by decide +kernel
theorem d_Model_lay_23 : decode prog_13_method_35_code 23 = .ok (.aload_n 0, 1) := by decide +kernel
theorem d_Model_lay_24 : decode prog_13_method_35_code 24 = .ok (.iload_n 1, 1) := by decide +kernel
theorem d_Model_lay_25 : decode prog_13_method_35_code 25 = .ok (.iconst 1, 1) := by decide +kernel
theorem d_Model_lay_26 : decode prog_13_method_35_code 26 = .ok (.invokevirtual 113, 3) := by decide +kernel
theorem d_Model_lay_29 : decode prog_13_method_35_code 29 = .ok (.isub, 1) := by decide +kernel
theorem d_Model_lay_30 : decode prog_13_method_35_code 30 = .ok (.iconst 1, 1) := by decide +kernel
theorem d_Model_lay_31 : decode prog_13_method_35_code 31 = .ok (.iadd, 1) := by decide +kernel
theorem d_Model_lay_32 : decode prog_13_method_35_code 32 = .ok (.istore 5, 2) := by decide +kernel
theorem d_Model_lay_34 : decode prog_13_method_35_code 34 = .ok (.iconst 0, 1) := by decide +kernel
theorem d_Model_lay_35 : decode prog_13_method_35_code 35 = .ok (.istore 6, 2) := by decide +kernel
theorem d_Model_lay_37 : decode prog_13_method_35_code 37 = .ok (.iload 6, 2) := by decide +kernel
theorem d_Model_lay_39 : decode prog_13_method_35_code 39 = .ok (.aload_n 0, 1) := by decide +kernel
theorem d_Model_lay_40 : decode prog_13_method_35_code 40 = .ok (.getfield 146, 3) := by decide +kernel
theorem d_Model_lay_43 : decode prog_13_method_35_code 43 = .ok (.if_icmp .ge 35, 3) := by decide +kernel
theorem d_Model_lay_46 : decode prog_13_method_35_code 46 = .ok (.aload_n 0, 1) := by decide +kernel
theorem d_Model_lay_47 : decode prog_13_method_35_code 47 = .ok (.getfield 49, 3) := by decide +kernel
theorem d_Model_lay_50 : decode prog_13_method_35_code 50 = .ok (.iload 6, 2) := by decide +kernel
theorem d_Model_lay_52 : decode prog_13_method_35_code 52 = .ok (.iaload, 1) := by decide +kernel
theorem d_Model_lay_53 : decode prog_13_method_35_code 53 = .ok (.iload 4, 2) := by decide +kernel
theorem d_Model_lay_55 : decode prog_13_method_35_code 55 = .ok (.iadd, 1) := by decide +kernel
theorem d_Model_lay_56 : decode prog_13_method_35_code 56 = .ok (.iload_n 2, 1) := by decide +kernel
theorem d_Model_lay_57 : decode prog_13_method_35_code 57 = .ok (.if_icmp .gt 15, 3) := by decide +kernel
theorem d_Model_lay_60 : decode prog_13_method_35_code 60 = .ok (.iload 5, 2) := by decide +kernel
theorem d_Model_lay_62 : decode prog_13_method_35_code 62 = .ok (.aload_n 0, 1) := by decide +kernel
theorem d_Model_lay_63 : decode prog_13_method_35_code 63 = .ok (.getfield 46, 3) := by decide +kernel
theorem d_Model_lay_66 : decode prog_13_method_35_code 66 = .ok (.iload 6, 2) := by decide +kernel
theorem d_Model_lay_68 : decode prog_13_method_35_code 68 = .ok (.iaload, 1) := by decide +kernel
theorem d_Model_lay_69 : decode prog_13_method_35_code 69 = .ok (.if_icmp .le 9, 3) := by decide +kernel
theorem d_Model_lay_72 : decode prog_13_method_35_code 72 = .ok (.iinc 6 1, 3) := by decide +kernel
theorem d_Model_lay_75 : decode prog_13_method_35_code 75 = .ok (.goto (-38), 3) := by decide +kernel
theorem d_Model_lay_78 : decode prog_13_method_35_code 78 = .ok (.iload 6, 2) := by decide +kernel
theorem d_Model_lay_80 : decode prog_13_method_35_code 80 = .ok (.aload_n 0, 1) := by decide +kernel
theorem d_Model_lay_81 : decode prog_13_method_35_code 81 = .ok (.getfield 146, 3) := by decide +kernel
theorem d_Model_lay_84 : decode prog_13_method_35_code 84 = .ok (.if_icmp .ne 92, 3) := by decide +kernel
theorem d_Model_lay_87 : decode prog_13_method_35_code 87 = .ok (.aload_n 0, 1) := by decide +kernel
theorem d_Model_lay_88 : decode prog_13_method_35_code 88 = .ok (.getfield 146, 3) := by decide +kernel
theorem d_Model_lay_91 : decode prog_13_method_35_code 91 = .ok (.ifCond .ne 7, 3) := by decide +kernel
theorem d_Model_lay_94 : decode prog_13_method_35_code 94 = .ok (.iconst 0, 1) := by decide +kernel
theorem d_Model_lay_95 : decode prog_13_method_35_code 95 = .ok (.goto 26, 3) := by decide +kernel
theorem d_Model_lay_98 : decode prog_13_method_35_code 98 = .ok (.aload_n 0, 1) := by decide +kernel
theorem d_Model_lay_99 : decode prog_13_method_35_code 99 = .ok (.getfield 43, 3) := by decide +kernel
theorem d_Model_lay_102 : decode prog_13_method_35_code 102 = .ok (.aload_n 0, 1) := by decide +kernel
theorem d_Model_lay_103 : decode prog_13_method_35_code 103 = .ok (.getfield 146, 3) := by decide +kernel
theorem d_Model_lay_106 : decode prog_13_method_35_code 106 = .ok (.iconst 1, 1) := by decide +kernel
theorem d_Model_lay_107 : decode prog_13_method_35_code 107 = .ok (.isub, 1) := by decide +kernel
theorem d_Model_lay_108 : decode prog_13_method_35_code 108 = .ok (.iaload, 1) := by decide +kernel
theorem d_Model_lay_109 : decode prog_13_method_35_code 109 = .ok (.aload_n 0, 1) := by decide +kernel
theorem d_Model_lay_110 : decode prog_13_method_35_code 110 = .ok (.getfield 46, 3) := by decide +kernel
theorem d_Model_lay_113 : decode prog_13_method_35_code 113 = .ok (.aload_n 0, 1) := by decide +kernel
theorem d_Model_lay_114 : decode prog_13_method_35_code 114 = .ok (.getfield 146, 3) := by decide +kernel
theorem d_Model_lay_117 : decode prog_13_method_35_code 117 = .ok (.iconst 1, 1) := by decide +kernel
theorem d_Model_lay_118 : decode prog_13_method_35_code 118 = .ok (.isub, 1) := by decide +kernel
theorem d_Model_lay_119 : decode prog_13_method_35_code 119 = .ok (.iaload, 1) := by decide +kernel
theorem d_Model_lay_120 : decode prog_13_method_35_code 120 = .ok (.iadd, 1) := by decide +kernel
theorem d_Model_lay_121 : decode prog_13_method_35_code 121 = .ok (.istore 7, 2) := by decide +kernel
theorem d_Model_lay_123 : decode prog_13_method_35_code 123 = .ok (.iload 4, 2) := by decide +kernel
theorem d_Model_lay_125 : decode prog_13_method_35_code 125 = .ok (.iload_n 2, 1) := by decide +kernel
theorem d_Model_lay_126 : decode prog_13_method_35_code 126 = .ok (.if_icmp .gt 12, 3) := by decide +kernel
theorem d_Model_lay_129 : decode prog_13_method_35_code 129 = .ok (.iload 7, 2) := by decide +kernel
theorem d_Model_lay_131 : decode prog_13_method_35_code 131 = .ok (.iload 5, 2) := by decide +kernel
theorem d_Model_lay_133 : decode prog_13_method_35_code 133 = .ok (.iadd, 1) := by decide +kernel
theorem d_Model_lay_134 : decode prog_13_method_35_code 134 = .ok (.iload_n 3, 1) := by decide +kernel
theorem d_Model_lay_135 : decode prog_13_method_35_code 135 = .ok (.if_icmp .le 5, 3) := by decide +kernel
theorem d_Model_lay_138 : decode prog_13_method_35_code 138 = .ok (.iconst 0, 1) := by decide +kernel
theorem d_Model_lay_139 : decode prog_13_method_35_code 139 = .ok (.ireturn, 1) := by decide +kernel
theorem d_Model_lay_140 : decode prog_13_method_35_code 140 = .ok (.aload_n 0, 1) := by decide +kernel
theorem d_Model_lay_141 : decode prog_13_method_35_code 141 = .ok (.getfield 43, 3) := by decide +kernel
theorem d_Model_lay_144 : decode prog_13_method_35_code 144 = .ok (.iload 6, 2) := by decide +kernel
theorem d_Model_lay_146 : decode prog_13_method_35_code 146 = .ok (.iload 7, 2) := by decide +kernel
theorem d_Model_lay_148 : decode prog_13_method_35_code 148 = .ok (.iastore, 1) := by decide +kernel
theorem d_Model_lay_149 : decode prog_13_method_35_code 149 = .ok (.aload_n 0, 1) := by decide +kernel
theorem d_Model_lay_150 : decode prog_13_method_35_code 150 = .ok (.getfield 46, 3) := by decide +kernel
theorem d_Model_lay_153 : decode prog_13_method_35_code 153 = .ok (.iload 6, 2) := by decide +kernel
theorem d_Model_lay_155 : decode prog_13_method_35_code 155 = .ok (.iload 5, 2) := by decide +kernel
theorem d_Model_lay_157 : decode prog_13_method_35_code 157 = .ok (.iastore, 1) := by decide +kernel
theorem d_Model_lay_158 : decode prog_13_method_35_code 158 = .ok (.aload_n 0, 1) := by decide +kernel
theorem d_Model_lay_159 : decode prog_13_method_35_code 159 = .ok (.getfield 49, 3) := by decide +kernel
theorem d_Model_lay_162 : decode prog_13_method_35_code 162 = .ok (.iload 6, 2) := by decide +kernel
theorem d_Model_lay_164 : decode prog_13_method_35_code 164 = .ok (.iconst 0, 1) := by decide +kernel
theorem d_Model_lay_165 : decode prog_13_method_35_code 165 = .ok (.iastore, 1) := by decide +kernel
theorem d_Model_lay_166 : decode prog_13_method_35_code 166 = .ok (.aload_n 0, 1) := by decide +kernel
theorem d_Model_lay_167 : decode prog_13_method_35_code 167 = .ok (.dup, 1) := by decide +kernel
theorem d_Model_lay_168 : decode prog_13_method_35_code 168 = .ok (.getfield 146, 3) := by decide +kernel
theorem d_Model_lay_171 : decode prog_13_method_35_code 171 = .ok (.iconst 1, 1) := by decide +kernel
theorem d_Model_lay_172 : decode prog_13_method_35_code 172 = .ok (.iadd, 1) := by decide +kernel
theorem d_Model_lay_173 : decode prog_13_method_35_code 173 = .ok (.putfield 146, 3) := by decide +kernel
theorem d_Model_lay_176 : decode prog_13_method_35_code 176 = .ok (.aload_n 0, 1) := by decide +kernel
theorem d_Model_lay_177 : decode prog_13_method_35_code 177 = .ok (.getfield 37, 3) := by decide +kernel
theorem d_Model_lay_180 : decode prog_13_method_35_code 180 = .ok (.iload_n 1, 1) := by decide +kernel
theorem d_Model_lay_181 : decode prog_13_method_35_code 181 = .ok (.aload_n 0, 1) := by decide +kernel
theorem d_Model_lay_182 : decode prog_13_method_35_code 182 = .ok (.getfield 49, 3) := by decide +kernel
theorem d_Model_lay_185 : decode prog_13_method_35_code 185 = .ok (.iload 6, 2) := by decide +kernel
theorem d_Model_lay_187 : decode prog_13_method_35_code 187 = .ok (.iaload, 1) := by decide +kernel
theorem d_Model_lay_188 : decode prog_13_method_35_code 188 = .ok (.iastore, 1) := by decide +kernel
theorem d_Model_lay_189 : decode prog_13_method_35_code 189 = .ok (.aload_n 0, 1) := by decide +kernel
theorem d_Model_lay_190 : decode prog_13_method_35_code 190 = .ok (.getfield 40, 3) := by decide +kernel
theorem d_Model_lay_193 : decode prog_13_method_35_code 193 = .ok (.iload_n 1, 1) := by decide +kernel
theorem d_Model_lay_194 : decode prog_13_method_35_code 194 = .ok (.aload_n 0, 1) := by decide +kernel
theorem d_Model_lay_195 : decode prog_13_method_35_code 195 = .ok (.getfield 43, 3) := by decide +kernel
theorem d_Model_lay_198 : decode prog_13_method_35_code 198 = .ok (.iload 6, 2) := by decide +kernel
theorem d_Model_lay_200 : decode prog_13_method_35_code 200 = .ok (.iaload, 1) := by decide +kernel
theorem d_Model_lay_201 : decode prog_13_method_35_code 201 = .ok (.iastore, 1) := by decide +kernel
theorem d_Model_lay_202 : decode prog_13_method_35_code 202 = .ok (.aload_n 0, 1) := by decide +kernel
theorem d_Model_lay_203 : decode prog_13_method_35_code 203 = .ok (.getfield 49, 3) := by decide +kernel
theorem d_Model_lay_206 : decode prog_13_method_35_code 206 = .ok (.iload 6, 2) := by decide +kernel
theorem d_Model_lay_208 : decode prog_13_method_35_code 208 = .ok (.aload_n 0, 1) := by decide +kernel
theorem d_Model_lay_209 : decode prog_13_method_35_code 209 = .ok (.getfield 49, 3) := by decide +kernel
theorem d_Model_lay_212 : decode prog_13_method_35_code 212 = .ok (.iload 6, 2) := by decide +kernel
theorem d_Model_lay_214 : decode prog_13_method_35_code 214 = .ok (.iaload, 1) := by decide +kernel
theorem d_Model_lay_215 : decode prog_13_method_35_code 215 = .ok (.iload 4, 2) := by decide +kernel
theorem d_Model_lay_217 : decode prog_13_method_35_code 217 = .ok (.iadd, 1) := by decide +kernel
theorem d_Model_lay_218 : decode prog_13_method_35_code 218 = .ok (.iastore, 1) := by decide +kernel
theorem d_Model_lay_219 : decode prog_13_method_35_code 219 = .ok (.iconst 1, 1) := by decide +kernel
theorem d_Model_lay_220 : decode prog_13_method_35_code 220 = .ok (.ireturn, 1) := by decide +kernel
theorem d_Model_left_0 : decode prog_13_method_30_code 0 = .ok (.aload_n 0, 1) := by decide +kernel
theorem d_Model_left_1 : decode prog_13_method_30_code 1 = .ok (.iload_n 1, 1) := by decide +kernel
theorem d_Model_left_2 : decode prog_13_method_30_code 2 = .ok (.invokevirtual 116, 3) := by decide +kernel
theorem d_Model_left_5 : decode prog_13_method_30_code 5 = .ok (.ifCond .eq 5, 3) := by decide +kernel
theorem d_Model_left_8 : decode prog_13_method_30_code 8 = .ok (.iconst 0, 1) := by decide +kernel
theorem d_Model_left_9 : decode prog_13_method_30_code 9 = .ok (.ireturn, 1) := by decide +kernel
theorem d_Model_left_10 : decode prog_13_method_30_code 10 = .ok (.aload_n 0, 1) := by decide +kernel
theorem d_Model_left_11 : decode prog_13_method_30_code 11 = .ok (.iload_n 2, 1) := by decide +kernel
theorem d_Model_left_12 : decode prog_13_method_30_code 12 = .ok (.ifCond .lt 13, 3) := by decide +kernel
theorem d_Model_left_15 : decode prog_13_method_30_code 15 = .ok (.iload_n 2, 1) := by decide +kernel
theorem d_Model_left_16 : decode prog_13_method_30_code 16 = .ok (.bipush 10, 2) := by decide +kernel
theorem d_Model_left_18 : decode prog_13_method_30_code 18 = .ok (.if_icmp .gt 7, 3) := by decide +kernel
theorem d_Model_left_21 : decode prog_13_method_30_code 21 = .ok (.iconst 0, 1) := by decide +kernel
theorem d_Model_left_22 : decode prog_13_method_30_code 22 = .ok (.goto 4, 3) := by decide +kernel
theorem d_Model_left_25 : decode prog_13_method_30_code 25 = .ok (.iconst 3, 1) := by decide +kernel
theorem d_Model_left_26 : decode prog_13_method_30_code 26 = .ok (.putfield 66, 3) := by decide +kernel
theorem d_Model_left_29 : decode prog_13_method_30_code 29 = .ok (.iconst 0, 1) := by decide +kernel
theorem d_Model_left_30 : decode prog_13_method_30_code 30 = .ok (.istore_n 3, 1) := by decide +kernel
theorem d_Model_left_31 : decode prog_13_method_30_code 31 = .ok (.iconst 0, 1) := by decide +kernel
theorem d_Model_left_32 : decode prog_13_method_30_code 32 = .ok (.istore 4, 2) := by decide +kernel
theorem d_Model_left_34 : decode prog_13_method_30_code 34 = .ok (.iload 4, 2) := by decide +kernel
theorem d_Model_left_36 : decode prog_13_method_30_code 36 = .ok (.aload_n 0, 1) := by decide +kernel
theorem d_Model_left_37 : decode prog_13_method_30_code 37 = .ok (.getfield 56, 3) := by decide +kernel
theorem d_Model_left_40 : decode prog_13_method_30_code 40 = .ok (.aload_n 0, 1) := by decide +kernel
theorem d_Model_left_41 : decode prog_13_method_30_code 41 = .ok (.getfield 60, 3) := by decide +kernel
theorem d_Model_left_44 : decode prog_13_method_30_code 44 = .ok (.imul, 1) := by decide +kernel
theorem d_Model_left_45 : decode prog_13_method_30_code 45 = .ok (.if_icmp .ge 63, 3) := by decide +kernel
theorem d_Model_left_48 : decode prog_13_method_30_code 48 = .ok (.aload_n 0, 1) := by decide +kernel
theorem d_Model_left_49 : decode prog_13_method_30_code 49 = .ok (.getfield 66, 3) := by decide +kernel
theorem d_Model_left_52 : decode prog_13_method_30_code 52 = .ok (.ifCond .ne 56, 3) := by decide +kernel
theorem d_Model_left_55 : decode prog_13_method_30_code 55 = .ok (.aload_n 0, 1) := by decide +kernel
theorem d_Model_left_56 : decode prog_13_method_30_code 56 = .ok (.getfield 19, 3) := by decide +kernel
theorem d_Model_left_59 : decode prog_13_method_30_code 59 = .ok (.iload 4, 2) := by decide +kernel
theorem d_Model_left_61 : decode prog_13_method_30_code 61 = .ok (.iaload, 1) := by decide +kernel
theorem d_Model_left_62 : decode prog_13_method_30_code 62 = .ok (.aload_n 0, 1) := by decide +kernel
theorem d_Model_left_63 : decode prog_13_method_30_code 63 = .ok (.getfield 22, 3) := by decide +kernel
theorem d_Model_left_66 : decode prog_13_method_30_code 66 = .ok (.iload_n 1, 1) := by decide +kernel
theorem d_Model_left_67 : decode prog_13_method_30_code 67 = .ok (.iaload, 1) := by decide +kernel
theorem d_Model_left_68 : decode prog_13_method_30_code 68 = .ok (.if_icmp .ne 32, 3) := by decide +kernel
theorem d_Model_left_71 : decode prog_13_method_30_code 71 = .ok (.aload_n 0, 1) := by decide +kernel
theorem d_Model_left_72 : decode prog_13_method_30_code 72 = .ok (.iload_n 1, 1) := by decide +kernel
theorem d_Model_left_73 : decode prog_13_method_30_code 73 = .ok (.iload 4, 2) := by decide +kernel
theorem d_Model_left_75 : decode prog_13_method_30_code 75 = .ok (.aload_n 0, 1) := by decide +kernel
theorem d_Model_left_76 : decode prog_13_method_30_code 76 = .ok (.getfield 56, 3) := by decide +kernel
theorem d_Model_left_79 : decode prog_13_method_30_code 79 = .ok (.irem, 1) := by decide +kernel
theorem d_Model_left_80 : decode prog_13_method_30_code 80 = .ok (.iload 4, 2) := by decide +kernel
theorem d_Model_left_82 : decode prog_13_method_30_code 82 = .ok (.aload_n 0, 1) := by decide +kernel
theorem d_Model_left_83 : decode prog_13_method_30_code 83 = .ok (.getfield 56, 3) := by decide +kernel
theorem d_Model_left_86 : decode prog_13_method_30_code 86 = .ok (.idiv, 1) := by decide +kernel
theorem d_Model_left_87 : decode prog_13_method_30_code 87 = .ok (.iload_n 2, 1) := by decide +kernel
theorem d_Model_left_88 : decode prog_13_method_30_code 88 = .ok (.invokevirtual 140, 3) := by decide +kernel
theorem d_Model_left_91 : decode prog_13_method_30_code 91 = .ok (.ifCond .ne 9, 3) := by decide +kernel
theorem d_Model_left_94 : decode prog_13_method_30_code 94 = .ok (.iload_n 3, 1) := by decide +kernel
theorem d_Model_left_95 : decode prog_13_method_30_code 95 = .ok (.iconst 1, 1) := by decide +kernel
theorem d_Model_left_96 : decode prog_13_method_30_code 96 = .ok (.iadd, 1) := by decide +kernel
theorem d_Model_left_97 : decode prog_13_method_30_code 97 = .ok (.goto 4, 3) := by decide +kernel
theorem d_Model_left_100 : decode prog_13_method_30_code 100 = .ok (.iload_n 3, 1) := by decide +kernel
theorem d_Model_left_101 : decode prog_13_method_30_code 101 = .ok (.istore_n 3, 1) := by decide +kernel
theorem d_Model_left_102 : decode prog_13_method_30_code 102 = .ok (.iinc 4 1, 3) := by decide +kernel
theorem d_Model_left_105 : decode prog_13_method_30_code 105 = .ok (.goto (-71), 3) := by decide +kernel
theorem d_Model_left_108 : decode prog_13_method_30_code 108 = .ok (.iload_n 3, 1) := by decide +kernel
theorem d_Model_left_109 : decode prog_13_method_30_code 109 = .ok (.ireturn, 1) := by decide +kernel
theorem d_Model_lower_0 : decode prog_13_method_11_code 0 = .ok (.aload_n 0, 1) := by decide +kernel
theorem d_Model_lower_1 : decode prog_13_method_11_code 1 = .ok (.getfield 19, 3) := by decide +kernel
theorem d_Model_lower_4 : decode prog_13_method_11_code 4 = .ok (.iload_n 1, 1) := by decide +kernel
theorem d_Model_lower_5 : decode prog_13_method_11_code 5 = .ok (.iaload, 1) := by decide +kernel
theorem d_Model_lower_6 : decode prog_13_method_11_code 6 = .ok (.istore_n 2, 1) := by decide +kernel
theorem d_Model_lower_7 : decode prog_13_method_11_code 7 = .ok (.iconst 0, 1) := by decide +kernel
theorem d_Model_lower_8 : decode prog_13_method_11_code 8 = .ok (.istore_n 3, 1) := by decide +kernel
theorem d_Model_lower_9 : decode prog_13_method_11_code 9 = .ok (.iload_n 3, 1) := by decide +kernel
theorem d_Model_lower_10 : decode prog_13_method_11_code 10 = .ok (.iconst 4, 1) := by decide +kernel
theorem d_Model_lower_11 : decode prog_13_method_11_code 11 = .ok (.if_icmp .ge 57, 3) := by decide +kernel
theorem d_Model_lower_14 : decode prog_13_method_11_code 14 = .ok (.aload_n 0, 1) := by decide +kernel
theorem d_Model_lower_15 : decode prog_13_method_11_code 15 = .ok (.iload_n 1, 1) := by decide +kernel
theorem d_Model_lower_16 : decode prog_13_method_11_code 16 = .ok (.iload_n 3, 1) := by decide +kernel
theorem d_Model_lower_17 : decode prog_13_method_11_code 17 = .ok (.invokevirtual 84, 3) := by decide +kernel
theorem d_Model_lower_20 : decode prog_13_method_11_code 20 = .ok (.istore 4, 2) := by decide +kernel
theorem d_Model_lower_22 : decode prog_13_method_11_code 22 = .ok (.iload 4, 2) := by decide +kernel
theorem d_Model_lower_24 : decode prog_13_method_11_code 24 = .ok (.ifCond .lt 38, 3) := by decide +kernel
theorem d_Model_lower_27 : decode prog_13_method_11_code 27 = .ok (.aload_n 0, 1) := by decide +kernel
theorem d_Model_lower_28 : decode prog_13_method_11_code 28 = .ok (.getfield 16, 3) := by decide +kernel
theorem d_Model_lower_31 : decode prog_13_method_11_code 31 = .ok (.iload 4, 2) := by decide +kernel
theorem d_Model_lower_33 : decode prog_13_method_11_code 33 = .ok (.iaload, 1) := by decide +kernel
theorem d_Model_lower_34 : decode prog_13_method_11_code 34 = .ok (.aload_n 0, 1) := by decide +kernel
theorem d_Model_lower_35 : decode prog_13_method_11_code 35 = .ok (.getfield 16, 3) := by decide +kernel
theorem d_Model_lower_38 : decode prog_13_method_11_code 38 = .ok (.iload_n 1, 1) := by decide +kernel
theorem d_Model_lower_39 : decode prog_13_method_11_code 39 = .ok (.iaload, 1) := by decide +kernel
theorem d_Model_lower_40 : decode prog_13_method_11_code 40 = .ok (.if_icmp .ne 22, 3) := by decide +kernel
theorem d_Model_lower_43 : decode prog_13_method_11_code 43 = .ok (.aload_n 0, 1) := by decide +kernel
theorem d_Model_lower_44 : decode prog_13_method_11_code 44 = .ok (.getfield 19, 3) := by decide +kernel
theorem d_Model_lower_47 : decode prog_13_method_11_code 47 = .ok (.iload 4, 2) := by decide +kernel
theorem d_Model_lower_49 : decode prog_13_method_11_code 49 = .ok (.iaload, 1) := by decide +kernel
theorem d_Model_lower_50 : decode prog_13_method_11_code 50 = .ok (.iload_n 2, 1) := by decide +kernel
theorem d_Model_lower_51 : decode prog_13_method_11_code 51 = .ok (.if_icmp .ge 11, 3) := by decide +kernel
theorem d_Model_lower_54 : decode prog_13_method_11_code 54 = .ok (.aload_n 0, 1) := by decide +kernel
theorem d_Model_lower_55 : decode prog_13_method_11_code 55 = .ok (.getfield 19, 3) := by decide +kernel
theorem d_Model_lower_58 : decode prog_13_method_11_code 58 = .ok (.iload 4, 2) := by decide +kernel
theorem d_Model_lower_60 : decode prog_13_method_11_code 60 = .ok (.iaload, 1) := by decide +kernel
theorem d_Model_lower_61 : decode prog_13_method_11_code 61 = .ok (.istore_n 2, 1) := by decide +kernel
theorem d_Model_lower_62 : decode prog_13_method_11_code 62 = .ok (.iinc 3 1, 3) := by decide +kernel
theorem d_Model_lower_65 : decode prog_13_method_11_code 65 = .ok (.goto (-56), 3) := by decide +kernel
theorem d_Model_lower_68 : decode prog_13_method_11_code 68 = .ok (.iload_n 2, 1) := by decide +kernel
theorem d_Model_lower_69 : decode prog_13_method_11_code 69 = .ok (.aload_n 0, 1) := by decide +kernel
theorem d_Model_lower_70 : decode prog_13_method_11_code 70 = .ok (.getfield 19, 3) := by decide +kernel
theorem d_Model_lower_73 : decode prog_13_method_11_code 73 = .ok (.iload_n 1, 1) := by decide +kernel
theorem d_Model_lower_74 : decode prog_13_method_11_code 74 = .ok (.iaload, 1) := by decide +kernel
theorem d_Model_lower_75 : decode prog_13_method_11_code 75 = .ok (.if_icmp .ge 7, 3) := by decide +kernel
theorem d_Model_lower_78 : decode prog_13_method_11_code 78 = .ok (.iconst 1, 1) := by decide +kernel
theorem d_Model_lower_79 : decode prog_13_method_11_code 79 = .ok (.goto 4, 3) := by decide +kernel
theorem d_Model_lower_82 : decode prog_13_method_11_code 82 = .ok (.iconst 0, 1) := by decide +kernel
theorem d_Model_lower_83 : decode prog_13_method_11_code 83 = .ok (.istore_n 3, 1) := by decide +kernel
theorem d_Model_lower_84 : decode prog_13_method_11_code 84 = .ok (.aload_n 0, 1) := by decide +kernel
theorem d_Model_lower_85 : decode prog_13_method_11_code 85 = .ok (.getfield 19, 3) := by decide +kernel
theorem d_Model_lower_88 : decode prog_13_method_11_code 88 = .ok (.iload_n 1, 1) := by decide +kernel
theorem d_Model_lower_89 : decode prog_13_method_11_code 89 = .ok (.iload_n 2, 1) := by decide +kernel
theorem d_Model_lower_90 : decode prog_13_method_11_code 90 = .ok (.iastore, 1) := by decide +kernel
theorem d_Model_lower_91 : decode prog_13_method_11_code 91 = .ok (.iload_n 3, 1) := by decide +kernel
theorem d_Model_lower_92 : decode prog_13_method_11_code 92 = .ok (.ireturn, 1) := by decide +kernel
theorem d_Model_makePieces_0 : decode prog_13_method_12_code 0 = .ok (.aload_n 0, 1) := by decide +kernel
theorem d_Model_makePieces_1 : decode prog_13_method_12_code 1 = .ok (.getfield 56, 3) := by decide +kernel
theorem d_Model_makePieces_4 : decode prog_13_method_12_code 4 = .ok (.aload_n 0, 1) := by decide +kernel
theorem d_Model_makePieces_5 : decode prog_13_method_12_code 5 = .ok (.getfield 60, 3) := by decide +kernel
theorem d_Model_makePieces_8 : decode prog_13_method_12_code 8 = .ok (.imul, 1) := by decide +kernel
theorem d_Model_makePieces_9 : decode prog_13_method_12_code 9 = .ok (.istore_n 1, 1) := by decide +kernel
theorem d_Model_makePieces_10 : decode prog_13_method_12_code 10 = .ok (.iconst 0, 1) := by decide +kernel
theorem d_Model_makePieces_11 : decode prog_13_method_12_code 11 = .ok (.istore_n 2, 1) := by decide +kernel
theorem d_Model_makePieces_12 : decode prog_13_method_12_code 12 = .ok (.iload_n 2, 1) := by decide +kernel
theorem d_Model_makePieces_13 : decode prog_13_method_12_code 13 = .ok (.iload_n 1, 1) := by decide +kernel
theorem d_Model_makePieces_14 : decode prog_13_method_12_code 14 = .ok (.if_icmp .ge 23, 3) := by decide +kernel
theorem d_Model_makePieces_17 : decode prog_13_method_12_code 17 = .ok (.aload_n 0, 1) := by decide +kernel
theorem d_Model_makePieces_18 : decode prog_13_method_12_code 18 = .ok (.getfield 19, 3) := by decide +kernel
theorem d_Model_makePieces_21 : decode prog_13_method_12_code 21 = .ok (.iload_n 2, 1) := by decide +kernel
theorem d_Model_makePieces_22 : decode prog_13_method_12_code 22 = .ok (.iload_n 2, 1) := by decide +kernel
theorem d_Model_makePieces_23 : decode prog_13_method_12_code 23 = .ok (.iastore, 1) := by decide +kernel
theorem d_Model_makePieces_24 : decode prog_13_method_12_code 24 = .ok (.aload_n 0, 1) := by decide +kernel
theorem d_Model_makePieces_25 : decode prog_13_method_12_code 25 = .ok (.getfield 25, 3) := by decide +kernel
theorem d_Model_makePieces_28 : decode prog_13_method_12_code 28 = .ok (.iload_n 2, 1) := by decide +kernel
theorem d_Model_makePieces_29 : decode prog_13_method_12_code 29 = .ok (.iconst 0, 1) := by decide +kernel
theorem d_Model_makePieces_30 : decode prog_13_method_12_code 30 = .ok (.iastore, 1) := by decide +kernel
