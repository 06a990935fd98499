theorem d_Model_makePieces_31 : decode prog_13_method_12_code 31 = .ok (.iinc 2 1, 3) := by decide +kernel
theorem d_Model_makePieces_34 : decode prog_13_method_12_code 34 = .ok (.goto (-22), 3) := by decide +kernel
theorem d_Model_makePieces_37 : decode prog_13_method_12_code 37 = .ok (.iconst 1, 1) := by decide +kernel
theorem d_Model_makePieces_38 : decode prog_13_method_12_code 38 = .ok (.istore_n 2, 1) := by decide +kernel
theorem d_Model_makePieces_39 : decode prog_13_method_12_code 39 = .ok (.iload_n 2, 1) := by decide +kernel
theorem d_Model_makePieces_40 : decode prog_13_method_12_code 40 = .ok (.ifCond .eq 71, 3) := by decide +kernel
theorem d_Model_makePieces_43 : decode prog_13_method_12_code 43 = .ok (.iconst 0, 1) := by decide +kernel
theorem d_Model_makePieces_44 : decode prog_13_method_12_code 44 = .ok (.istore_n 2, 1) := by decide +kernel
theorem d_Model_makePieces_45 : decode prog_13_method_12_code 45 = .ok (.iconst 0, 1) := by decide +kernel
theorem d_Model_makePieces_46 : decode prog_13_method_12_code 46 = .ok (.istore_n 3, 1) := by decide +kernel
theorem d_Model_makePieces_47 : decode prog_13_method_12_code 47 = .ok (.iload_n 3, 1) := by decide +kernel
theorem d_Model_makePieces_48 : decode prog_13_method_12_code 48 = .ok (.iload_n 1, 1) := by decide +kernel
theorem d_Model_makePieces_49 : decode prog_13_method_12_code 49 = .ok (.if_icmp .ge 27, 3) := by decide +kernel
theorem d_Model_makePieces_52 : decode prog_13_method_12_code 52 = .ok (.aload_n 0, 1) := by decide +kernel
theorem d_Model_makePieces_53 : decode prog_13_method_12_code 53 = .ok (.iload_n 3, 1) := by decide +kernel
theorem d_Model_makePieces_54 : decode prog_13_method_12_code 54 = .ok (.invokevirtual 87, 3) := by decide +kernel
theorem d_Model_makePieces_57 : decode prog_13_method_12_code 57 = .ok (.ifCond .ne 7, 3) := by decide +kernel
theorem d_Model_makePieces_60 : decode prog_13_method_12_code 60 = .ok (.iload_n 2, 1) := by decide +kernel
theorem d_Model_makePieces_61 : decode prog_13_method_12_code 61 = .ok (.ifCond .eq 7, 3) := by decide +kernel
theorem d_Model_makePieces_64 : decode prog_13_method_12_code 64 = .ok (.iconst 1, 1) := by decide +kernel
theorem d_Model_makePieces_65 : decode prog_13_method_12_code 65 = .ok (.goto 4, 3) := by decide +kernel
theorem d_Model_makePieces_68 : decode prog_13_method_12_code 68 = .ok (.iconst 0, 1) := by decide +kernel
theorem d_Model_makePieces_69 : decode prog_13_method_12_code 69 = .ok (.istore_n 2, 1) := by decide +kernel
theorem d_Model_makePieces_70 : decode prog_13_method_12_code 70 = .ok (.iinc 3 1, 3) := by decide +kernel
theorem d_Model_makePieces_73 : decode prog_13_method_12_code 73 = .ok (.goto (-26), 3) := by decide +kernel
theorem d_Model_makePieces_76 : decode prog_13_method_12_code 76 = .ok (.iload_n 1, 1) := by decide +kernel
theorem d_Model_makePieces_77 : decode prog_13_method_12_code 77 = .ok (.iconst 1, 1) := by decide +kernel
theorem d_Model_makePieces_78 : decode prog_13_method_12_code 78 = .ok (.isub, 1) := by decide +kernel
theorem d_Model_makePieces_79 : decode prog_13_method_12_code 79 = .ok (.istore_n 3, 1) := by decide +kernel
theorem d_Model_makePieces_80 : decode prog_13_method_12_code 80 = .ok (.iload_n 3, 1) := by decide +kernel
theorem d_Model_makePieces_81 : decode prog_13_method_12_code 81 = .ok (.ifCond .lt 27, 3) := by decide +kernel
theorem d_Model_makePieces_84 : decode prog_13_method_12_code 84 = .ok (.aload_n 0, 1) := by decide +kernel
theorem d_Model_makePieces_85 : decode prog_13_method_12_code 85 = .ok (.iload_n 3, 1) := by decide +kernel
theorem d_Model_makePieces_86 : decode prog_13_method_12_code 86 = .ok (.invokevirtual 87, 3) := by decide +kernel
theorem d_Model_makePieces_89 : decode prog_13_method_12_code 89 = .ok (.ifCond .ne 7, 3) := by decide +kernel
theorem d_Model_makePieces_92 : decode prog_13_method_12_code 92 = .ok (.iload_n 2, 1) := by decide +kernel
theorem d_Model_makePieces_93 : decode prog_13_method_12_code 93 = .ok (.ifCond .eq 7, 3) := by decide +kernel
theorem d_Model_makePieces_96 : decode prog_13_method_12_code 96 = .ok (.iconst 1, 1) := by decide +kernel
theorem d_Model_makePieces_97 : decode prog_13_method_12_code 97 = .ok (.goto 4, 3) := by decide +kernel
theorem d_Model_makePieces_100 : decode prog_13_method_12_code 100 = .ok (.iconst 0, 1) := by decide +kernel
theorem d_Model_makePieces_101 : decode prog_13_method_12_code 101 = .ok (.istore_n 2, 1) := by decide +kernel
theorem d_Model_makePieces_102 : decode prog_13_method_12_code 102 = .ok (.iinc 3 (-1), 3) := by decide +kernel
theorem d_Model_makePieces_105 : decode prog_13_method_12_code 105 = .ok (.goto (-25), 3) := by decide +kernel
theorem d_Model_makePieces_108 : decode prog_13_method_12_code 108 = .ok (.goto (-69), 3) := by decide +kernel
theorem d_Model_makePieces_111 : decode prog_13_method_12_code 111 = .ok (.aload_n 0, 1) := by decide +kernel
theorem d_Model_makePieces_112 : decode prog_13_method_12_code 112 = .ok (.iconst 0, 1) := by decide +kernel
theorem d_Model_makePieces_113 : decode prog_13_method_12_code 113 = .ok (.putfield 90, 3) := by decide +kernel
theorem d_Model_makePieces_116 : decode prog_13_method_12_code 116 = .ok (.iconst 0, 1) := by decide +kernel
theorem d_Model_makePieces_117 : decode prog_13_method_12_code 117 = .ok (.istore_n 3, 1) := by decide +kernel
theorem d_Model_makePieces_118 : decode prog_13_method_12_code 118 = .ok (.iload_n 3, 1) := by decide +kernel
theorem d_Model_makePieces_119 : decode prog_13_method_12_code 119 = .ok (.iload_n 1, 1) := by decide +kernel
theorem d_Model_makePieces_120 : decode prog_13_method_12_code 120 = .ok (.if_icmp .ge 54, 3) := by decide +kernel
theorem d_Model_makePieces_123 : decode prog_13_method_12_code 123 = .ok (.aload_n 0, 1) := by decide +kernel
theorem d_Model_makePieces_124 : decode prog_13_method_12_code 124 = .ok (.getfield 25, 3) := by decide +kernel
theorem d_Model_makePieces_127 : decode prog_13_method_12_code 127 = .ok (.aload_n 0, 1) := by decide +kernel
theorem d_Model_makePieces_128 : decode prog_13_method_12_code 128 = .ok (.getfield 19, 3) := by decide +kernel
theorem d_Model_makePieces_131 : decode prog_13_method_12_code 131 = .ok (.iload_n 3, 1) := by decide +kernel
theorem d_Model_makePieces_132 : decode prog_13_method_12_code 132 = .ok (.iaload, 1) := by decide +kernel
theorem d_Model_makePieces_133 : decode prog_13_method_12_code 133 = .ok (.dup2, 1) := by decide +kernel
theorem d_Model_makePieces_134 : decode prog_13_method_12_code 134 = .ok (.iaload, 1) := by decide +kernel
theorem d_Model_makePieces_135 : decode prog_13_method_12_code 135 = .ok (.iconst 1, 1) := by decide +kernel
theorem d_Model_makePieces_136 : decode prog_13_method_12_code 136 = .ok (.iadd, 1) := by decide +kernel
theorem d_Model_makePieces_137 : decode prog_13_method_12_code 137 = .ok (.iastore, 1) := by decide +kernel
theorem d_Model_makePieces_138 : decode prog_13_method_12_code 138 = .ok (.aload_n 0, 1) := by decide +kernel
theorem d_Model_makePieces_139 : decode prog_13_method_12_code 139 = .ok (.getfield 19, 3) := by decide +kernel
theorem d_Model_makePieces_142 : decode prog_13_method_12_code 142 = .ok (.iload_n 3, 1) := by decide +kernel
theorem d_Model_makePieces_143 : decode prog_13_method_12_code 143 = .ok (.iaload, 1) := by decide +kernel
theorem d_Model_makePieces_144 : decode prog_13_method_12_code 144 = .ok (.iload_n 3, 1) := by decide +kernel
theorem d_Model_makePieces_145 : decode prog_13_method_12_code 145 = .ok (.if_icmp .ne 23, 3) := by decide +kernel
theorem d_Model_makePieces_148 : decode prog_13_method_12_code 148 = .ok (.aload_n 0, 1) := by decide +kernel
theorem d_Model_makePieces_149 : decode prog_13_method_12_code 149 = .ok (.getfield 22, 3) := by decide +kernel
theorem d_Model_makePieces_152 : decode prog_13_method_12_code 152 = .ok (.aload_n 0, 1) := by decide +kernel
theorem d_Model_makePieces_153 : decode prog_13_method_12_code 153 = .ok (.getfield 90, 3) := by decide +kernel
theorem d_Model_makePieces_156 : decode prog_13_method_12_code 156 = .ok (.iload_n 3, 1) := by decide +kernel
theorem d_Model_makePieces_157 : decode prog_13_method_12_code 157 = .ok (.iastore, 1) := by decide +kernel
theorem d_Model_makePieces_158 : decode prog_13_method_12_code 158 = .ok (.aload_n 0, 1) := by decide +kernel
theorem d_Model_makePieces_159 : decode prog_13_method_12_code 159 = .ok (.dup, 1) := by decide +kernel
theorem d_Model_makePieces_160 : decode prog_13_method_12_code 160 = .ok (.getfield 90, 3) := by decide +kernel
theorem d_Model_makePieces_163 : decode prog_13_method_12_code 163 = .ok (.iconst 1, 1) := by decide +kernel
theorem d_Model_makePieces_164 : decode prog_13_method_12_code 164 = .ok (.iadd, 1) := by decide +kernel
theorem d_Model_makePieces_165 : decode prog_13_method_12_code 165 = .ok (.putfield 90, 3) := by decide +kernel
theorem d_Model_makePieces_168 : decode prog_13_method_12_code 168 = .ok (.iinc 3 1, 3) := by decide +kernel
theorem d_Model_makePieces_171 : decode prog_13_method_12_code 171 = .ok (.goto (-53), 3) := by decide +kernel
theorem d_Model_makePieces_174 : decode prog_13_method_12_code 174 = .ok (.return_, 1) := by decide +kernel
theorem d_Model_nearestKind_0 : decode prog_13_method_9_code 0 = .ok (.iconst 0, 1) := by decide +kernel
theorem d_Model_nearestKind_1 : decode prog_13_method_9_code 1 = .ok (.istore_n 2, 1) := by decide +kernel
theorem d_Model_nearestKind_2 : decode prog_13_method_9_code 2 = .ok (.iconst 1, 1) := by decide +kernel
theorem d_Model_nearestKind_3 : decode prog_13_method_9_code 3 = .ok (.istore_n 3, 1) := by decide +kernel
theorem d_Model_nearestKind_4 : decode prog_13_method_9_code 4 = .ok (.iload_n 3, 1) := by decide +kernel
theorem d_Model_nearestKind_5 : decode prog_13_method_9_code 5 = .ok (.aload_n 0, 1) := by decide +kernel
theorem d_Model_nearestKind_6 : decode prog_13_method_9_code 6 = .ok (.getfield 63, 3) := by decide +kernel
theorem d_Model_nearestKind_9 : decode prog_13_method_9_code 9 = .ok (.if_icmp .ge 30, 3) := by decide +kernel
theorem d_Model_nearestKind_12 : decode prog_13_method_9_code 12 = .ok (.aload_n 0, 1) := by decide +kernel
theorem d_Model_nearestKind_13 : decode prog_13_method_9_code 13 = .ok (.iload_n 1, 1) := by decide +kernel
theorem d_Model_nearestKind_14 : decode prog_13_method_9_code 14 = .ok (.iload_n 3, 1) := by decide +kernel
theorem d_Model_nearestKind_15 : decode prog_13_method_9_code 15 = .ok (.invokevirtual 81, 3) := by decide +kernel
theorem d_Model_nearestKind_18 : decode prog_13_method_9_code 18 = .ok (.aload_n 0, 1) := by decide +kernel
theorem d_Model_nearestKind_19 : decode prog_13_method_9_code 19 = .ok (.iload_n 1, 1) := by decide +kernel
theorem d_Model_nearestKind_20 : decode prog_13_method_9_code 20 = .ok (.iload_n 2, 1) := by decide +kernel
theorem d_Model_nearestKind_21 : decode prog_13_method_9_code 21 = .ok (.invokevirtual 81, 3) := by decide +kernel
theorem d_Model_nearestKind_24 : decode prog_13_method_9_code 24 = .ok (.if_icmp .ge 7, 3) := by decide +kernel
theorem d_Model_nearestKind_27 : decode prog_13_method_9_code 27 = .ok (.iload_n 3, 1) := by decide +kernel
theorem d_Model_nearestKind_28 : decode prog_13_method_9_code 28 = .ok (.goto 4, 3) := by decide +kernel
theorem d_Model_nearestKind_31 : decode prog_13_method_9_code 31 = .ok (.iload_n 2, 1) := by decide +kernel
theorem d_Model_nearestKind_32 : decode prog_13_method_9_code 32 = .ok (.istore_n 2, 1) := by decide +kernel
theorem d_Model_nearestKind_33 : decode prog_13_method_9_code 33 = .ok (.iinc 3 1, 3) := by decide +kernel
theorem d_Model_nearestKind_36 : decode prog_13_method_9_code 36 = .ok (.goto (-32), 3) := by decide +kernel
theorem d_Model_nearestKind_39 : decode prog_13_method_9_code 39 = .ok (.iload_n 2, 1) := by decide +kernel
theorem d_Model_nearestKind_40 : decode prog_13_method_9_code 40 = .ok (.ireturn, 1) := by decide +kernel
theorem d_Model_nest_0 : decode prog_13_method_36_code 0 = .ok (.aload_n 0, 1) := by decide +kernel
theorem d_Model_nest_1 : decode prog_13_method_36_code 1 = .ok (.aload_n 0, 1) := by decide +kernel
theorem d_Model_nest_2 : decode prog_13_method_36_code 2 = .ok (.getfield 77, 3) := by decide +kernel
theorem d_Model_nest_5 : decode prog_13_method_36_code 5 = .ok (.ifCond .ne 7, 3) := by decide +kernel
theorem d_Model_nest_8 : decode prog_13_method_36_code 8 = .ok (.iconst 1, 1) := by decide +kernel
theorem d_Model_nest_9 : decode prog_13_method_36_code 9 = .ok (.goto 30, 3) := by decide +kernel
theorem d_Model_nest_12 : decode prog_13_method_36_code 12 = .ok (.iload_n 1, 1) := by decide +kernel
theorem d_Model_nest_13 : decode prog_13_method_36_code 13 = .ok (.iconst 1, 1) := by decide +kernel
theorem d_Model_nest_14 : decode prog_13_method_36_code 14 = .ok (.if_icmp .lt 24, 3) := by decide +kernel
theorem d_Model_nest_17 : decode prog_13_method_36_code 17 = .ok (.iload_n 1, 1) := by decide +kernel
theorem d_Model_nest_18 : decode prog_13_method_36_code 18 = .ok (.bipush 100, 2) := by decide +kernel
theorem d_Model_nest_20 : decode prog_13_method_36_code 20 = .ok (.if_icmp .gt 18, 3) := by decide +kernel
theorem d_Model_nest_23 : decode prog_13_method_36_code 23 = .ok (.iload_n 2, 1) := by decide +kernel
theorem d_Model_nest_24 : decode prog_13_method_36_code 24 = .ok (.iconst 1, 1) := by decide +kernel
theorem d_Model_nest_25 : decode prog_13_method_36_code 25 = .ok (.if_icmp .lt 13, 3) := by decide +kernel
theorem d_Model_nest_28 : decode prog_13_method_36_code 28 = .ok (.iload_n 2, 1) := by decide +kernel
theorem d_Model_nest_29 : decode prog_13_method_36_code 29 = .ok (.bipush 100, 2) := by decide +kernel
theorem d_Model_nest_31 : decode prog_13_method_36_code 31 = .ok (.if_icmp .gt 7, 3) := by decide +kernel
theorem d_Model_nest_34 : decode prog_13_method_36_code 34 = .ok (.iconst 0, 1) := by decide +kernel
theorem d_Model_nest_35 : decode prog_13_method_36_code 35 = .ok (.goto 4, 3) := by decide +kernel
theorem d_Model_nest_38 : decode prog_13_method_36_code 38 = .ok (.iconst 2, 1) := by decide +kernel
theorem d_Model_nest_39 : decode prog_13_method_36_code 39 = .ok (.putfield 66, 3) := by decide +kernel
theorem d_Model_nest_42 : decode prog_13_method_36_code 42 = .ok (.aload_n 0, 1) := by decide +kernel
theorem d_Model_nest_43 : decode prog_13_method_36_code 43 = .ok (.getfield 66, 3) := by decide +kernel
theorem d_Model_nest_46 : decode prog_13_method_36_code 46 = .ok (.ifCond .le 5, 3) := by decide +kernel
theorem d_Model_nest_49 : decode prog_13_method_36_code 49 = .ok (.iconst 0, 1) := by decide +kernel
theorem d_Model_nest_50 : decode prog_13_method_36_code 50 = .ok (.ireturn, 1) := by decide +kernel
theorem d_Model_nest_51 : decode prog_13_method_36_code 51 = .ok (.aload_n 0, 1) := by decide +kernel
theorem d_Model_nest_52 : decode prog_13_method_36_code 52 = .ok (.iconst 0, 1) := by decide +kernel
theorem d_Model_nest_53 : decode prog_13_method_36_code 53 = .ok (.putfield 146, 3) := by decide +kernel
theorem d_Model_nest_56 : decode prog_13_method_36_code 56 = .ok (.iconst 0, 1) := by decide +kernel
theorem d_Model_nest_57 : decode prog_13_method_36_code 57 = .ok (.istore_n 3, 1) := by decide +kernel
theorem d_Model_nest_58 : decode prog_13_method_36_code 58 = .ok (.iconst 0, 1) := by decide +kernel
theorem d_Model_nest_59 : decode prog_13_method_36_code 59 = .ok (.istore 4, 2) := by decide +kernel
theorem d_Model_nest_61 : decode prog_13_method_36_code 61 = .ok (.iload 4, 2) := by decide +kernel
theorem d_Model_nest_63 : decode prog_13_method_36_code 63 = .ok (.aload_n 0, 1) := by decide +kernel
theorem d_Model_nest_64 : decode prog_13_method_36_code 64 = .ok (.getfield 90, 3) := by decide +kernel
theorem d_Model_nest_67 : decode prog_13_method_36_code 67 = .ok (.if_icmp .ge 25, 3) := by decide +kernel
theorem d_Model_nest_70 : decode prog_13_method_36_code 70 = .ok (.aload_n 0, 1) := by decide +kernel
theorem d_Model_nest_71 : decode prog_13_method_36_code 71 = .ok (.getfield 37, 3) := by decide +kernel
theorem d_Model_nest_74 : decode prog_13_method_36_code 74 = .ok (.iload 4, 2) := by decide +kernel
theorem d_Model_nest_76 : decode prog_13_method_36_code 76 = .ok (.iconst (-1), 1) := by decide +kernel
theorem d_Model_nest_77 : decode prog_13_method_36_code 77 = .ok (.iastore, 1) := by decide +kernel
theorem d_Model_nest_78 : decode prog_13_method_36_code 78 = .ok (.aload_n 0, 1) := by decide +kernel
theorem d_Model_nest_79 : decode prog_13_method_36_code 79 = .ok (.getfield 40, 3) := by decide +kernel
theorem d_Model_nest_82 : decode prog_13_method_36_code 82 = .ok (.iload 4, 2) := by decide +kernel
theorem d_Model_nest_84 : decode prog_13_method_36_code 84 = .ok (.iconst (-1), 1) := by decide +kernel
theorem d_Model_nest_85 : decode prog_13_method_36_code 85 = .ok (.iastore, 1) := by decide +kernel
theorem d_Model_nest_86 : decode prog_13_method_36_code 86 = .ok (.iinc 4 1, 3) := by decide +kernel
theorem d_Model_nest_89 : decode prog_13_method_36_code 89 = .ok (.goto (-28), 3) := by decide +kernel
theorem d_Model_nest_92 : decode prog_13_method_36_code 92 = .ok (.iconst (-1), 1) := by decide +kernel
theorem d_Model_nest_93 : decode prog_13_method_36_code 93 = .ok (.istore 4, 2) := by decide +kernel
theorem d_Model_nest_95 : decode prog_13_method_36_code 95 = .ok (.iconst 0, 1) := by decide +kernel
theorem d_Model_nest_96 : decode prog_13_method_36_code 96 = .ok (.istore 5, 2) := by decide +kernel
theorem d_Model_nest_98 : decode prog_13_method_36_code 98 = .ok (.iload 5, 2) := by decide +kernel
theorem d_Model_nest_100 : decode prog_13_method_36_code 100 = .ok (.aload_n 0, 1) := by decide +kernel
theorem d_Model_nest_101 : decode prog_13_method_36_code 101 = .ok (.getfield 90, 3) := by decide +kernel
theorem d_Model_nest_104 : decode prog_13_method_36_code 104 = .ok (.if_icmp .ge 113, 3) := by decide +kernel
theorem d_Model_nest_107 : decode prog_13_method_36_code 107 = .ok (.iconst (-1), 1) := by decide +kernel
theorem d_Model_nest_108 : decode prog_13_method_36_code 108 = .ok (.istore 6, 2) := by decide +kernel
theorem d_Model_nest_110 : decode prog_13_method_36_code 110 = .ok (.iconst 0, 1) := by decide +kernel
theorem d_Model_nest_111 : decode prog_13_method_36_code 111 = .ok (.istore 7, 2) := by decide +kernel
theorem d_Model_nest_113 : decode prog_13_method_36_code 113 = .ok (.iload 7, 2) := by decide +kernel
theorem d_Model_nest_115 : decode prog_13_method_36_code 115 = .ok (.aload_n 0, 1) := by decide +kernel
theorem d_Model_nest_116 : decode prog_13_method_36_code 116 = .ok (.getfield 90, 3) := by decide +kernel
theorem d_Model_nest_119 : decode prog_13_method_36_code 119 = .ok (.if_icmp .ge 69, 3) := by decide +kernel
theorem d_Model_nest_122 : decode prog_13_method_36_code 122 = .ok (.iload 4, 2) := by decide +kernel
theorem d_Model_nest_124 : decode prog_13_method_36_code 124 = .ok (.ifCond .lt 21, 3) := by decide +kernel
theorem d_Model_nest_127 : decode prog_13_method_36_code 127 = .ok (.iload 7, 2) := by decide +kernel
theorem d_Model_nest_129 : decode prog_13_method_36_code 129 = .ok (.iload 4, 2) := by decide +kernel
theorem d_Model_nest_131 : decode prog_13_method_36_code 131 = .ok (.if_icmp .eq 18, 3) := by decide +kernel
theorem d_Model_nest_134 : decode prog_13_method_36_code 134 = .ok (.aload_n 0, 1) := by decide +kernel
theorem d_Model_nest_135 : decode prog_13_method_36_code 135 = .ok (.iload 4, 2) := by decide +kernel
theorem d_Model_nest_137 : decode prog_13_method_36_code 137 = .ok (.iload 7, 2) := by decide +kernel
theorem d_Model_nest_139 : decode prog_13_method_36_code 139 = .ok (.invokevirtual 149, 3) := by decide +kernel
theorem d_Model_nest_142 : decode prog_13_method_36_code 142 = .ok (.ifCond .eq 7, 3) := by decide +kernel
theorem d_Model_nest_145 : decode prog_13_method_36_code 145 = .ok (.iconst 1, 1) := by decide +kernel
theorem d_Model_nest_146 : decode prog_13_method_36_code 146 = .ok (.goto 4, 3) := by decide +kernel
theorem d_Model_nest_149 : decode prog_13_method_36_code 149 = .ok (.iconst 0, 1) := by decide +kernel
theorem d_Model_nest_150 : decode prog_13_method_36_code 150 = .ok (.istore 8, 2) := by decide +kernel
theorem d_Model_nest_152 : decode prog_13_method_36_code 152 = .ok (.iload 8, 2) := by decide +kernel
theorem d_Model_nest_154 : decode prog_13_method_36_code 154 = .ok (.ifCond .eq 24, 3) := by decide +kernel
theorem d_Model_nest_157 : decode prog_13_method_36_code 157 = .ok (.iload 6, 2) := by decide +kernel
theorem d_Model_nest_159 : decode prog_13_method_36_code 159 = .ok (.ifCond .lt 14, 3) := by decide +kernel
theorem d_Model_nest_162 : decode prog_13_method_36_code 162 = .ok (.aload_n 0, 1) := by decide +kernel
theorem d_Model_nest_163 : decode prog_13_method_36_code 163 = .ok (.iload 7, 2) := by decide +kernel
theorem d_Model_nest_165 : decode prog_13_method_36_code 165 = .ok (.iload 6, 2) := by decide +kernel
theorem d_Model_nest_167 : decode prog_13_method_36_code 167 = .ok (.invokevirtual 149, 3) := by decide +kernel
theorem d_Model_nest_170 : decode prog_13_method_36_code 170 = .ok (.ifCond .eq 8, 3) := by decide +kernel
theorem d_Model_nest_173 : decode prog_13_method_36_code 173 = .ok (.iload 7, 2) := by decide +kernel
theorem d_Model_nest_175 : decode prog_13_method_36_code 175 = .ok (.goto 5, 3) := by decide +kernel
theorem d_Model_nest_178 : decode prog_13_method_36_code 178 = .ok (.iload 6, 2) := by decide +kernel
theorem d_Model_nest_180 : decode prog_13_method_36_code 180 = .ok (.istore 6, 2) := by decide +kernel
theorem d_Model_nest_182 : decode prog_13_method_36_code 182 = .ok (.iinc 7 1, 3) := by decide +kernel
theorem d_Model_nest_185 : decode prog_13_method_36_code 185 = .ok (.goto (-72), 3) := by decide +kernel
theorem d_Model_nest_188 : decode prog_13_method_36_code 188 = .ok (.aload_n 0, 1) := by decide +kernel
theorem d_Model_nest_189 : decode prog_13_method_36_code 189 = .ok (.iload 6, 2) := by decide +kernel
theorem d_Model_nest_191 : decode prog_13_method_36_code 191 = .ok (.iload_n 1, 1) := by decide +kernel
theorem d_Model_nest_192 : decode prog_13_method_36_code 192 = .ok (.iload_n 2, 1) := by decide +kernel
theorem d_Model_nest_193 : decode prog_13_method_36_code 193 = .ok (.invokevirtual 152, 3) := by decide +kernel
theorem d_Model_nest_196 : decode prog_13_method_36_code 196 = .ok (.ifCond .eq 9, 3) := by decide +kernel
theorem d_Model_nest_199 : decode prog_13_method_36_code 199 = .ok (.iload_n 3, 1) := by decide +kernel
theorem d_Model_nest_200 : decode prog_13_method_36_code 200 = .ok (.iconst 1, 1) := by decide +kernel
theorem d_Model_nest_201 : decode prog_13_method_36_code 201 = .ok (.iadd, 1) := by decide +kernel
theorem d_Model_nest_202 : decode prog_13_method_36_code 202 = .ok (.goto 4, 3) := by decide +kernel
theorem d_Model_nest_205 : decode prog_13_method_36_code 205 = .ok (.iload_n 3, 1) := by decide +kernel
theorem d_Model_nest_206 : decode prog_13_method_36_code 206 = .ok (.istore_n 3, 1) := by decide +kernel
theorem d_Model_nest_207 : decode prog_13_method_36_code 207 = .ok (.iload 6, 2) := by decide +kernel
theorem d_Model_nest_209 : decode prog_13_method_36_code 209 = .ok (.istore 4, 2) := by decide +kernel
theorem d_Model_nest_211 : decode prog_13_method_36_code 211 = .ok (.iinc 5 1, 3) := by decide +kernel
theorem d_Model_nest_214 : decode prog_13_method_36_code 214 = .ok (.goto (-116), 3) := by decide +kernel
theorem d_Model_nest_217 : decode prog_13_method_36_code 217 = .ok (.aload_n 0, 1) := by decide +kernel
theorem d_Model_nest_218 : decode prog_13_method_36_code 218 = .ok (.iconst 1, 1) := by decide +kernel
theorem d_Model_nest_219 : decode prog_13_method_36_code 219 = .ok (.putfield 107, 3) := by decide +kernel
theorem d_Model_nest_222 : decode prog_13_method_36_code 222 = .ok (.iload_n 3, 1) := by decide +kernel
theorem d_Model_nest_223 : decode prog_13_method_36_code 223 = .ok (.ireturn, 1) := by decide +kernel
theorem d_Model_noPiece_0 : decode prog_13_method_18_code 0 = .ok (.aload_n 0, 1) := by decide +kernel
theorem d_Model_noPiece_1 : decode prog_13_method_18_code 1 = .ok (.aload_n 0, 1) := by decide +kernel
theorem d_Model_noPiece_2 : decode prog_13_method_18_code 2 = .ok (.getfield 77, 3) := by decide +kernel
theorem d_Model_noPiece_5 : decode prog_13_method_18_code 5 = .ok (.ifCond .ne 7, 3) := by decide +kernel
theorem d_Model_noPiece_8 : decode prog_13_method_18_code 8 = .ok (.iconst 1, 1) := by decide +kernel
theorem d_Model_noPiece_9 : decode prog_13_method_18_code 9 = .ok (.goto 20, 3) := by decide +kernel
theorem d_Model_noPiece_12 : decode prog_13_method_18_code 12 = .ok (.iload_n 1, 1) := by decide +kernel
theorem d_Model_noPiece_13 : decode prog_13_method_18_code 13 = .ok (.ifCond .lt 11, 3) := by decide +kernel
theorem d_Model_noPiece_16 : decode prog_13_method_18_code 16 = .ok (.iload_n 1, 1) := by decide +kernel
theorem d_Model_noPiece_17 : decode prog_13_method_18_code 17 = .ok (.aload_n 0, 1) := by decide +kernel
theorem d_Model_noPiece_18 : decode prog_13_method_18_code 18 = .ok (.getfield 90, 3) := by decide +kernel
theorem d_Model_noPiece_21 : decode prog_13_method_18_code 21 = .ok (.if_icmp .lt 7, 3) := by decide +kernel
theorem d_Model_noPiece_24 : decode prog_13_method_18_code 24 = .ok (.iconst 2, 1) := by decide +kernel
theorem d_Model_noPiece_25 : decode prog_13_method_18_code 25 = .ok (.goto 4, 3) := by decide +kernel
theorem d_Model_noPiece_28 : decode prog_13_method_18_code 28 = .ok (.iconst 0, 1) := by decide +kernel
theorem d_Model_noPiece_29 : decode prog_13_method_18_code 29 = .ok (.putfield 66, 3) := by decide +kernel
theorem d_Model_noPiece_32 : decode prog_13_method_18_code 32 = .ok (.aload_n 0, 1) := by decide +kernel
theorem d_Model_noPiece_33 : decode prog_13_method_18_code 33 = .ok (.getfield 66, 3) := by decide +kernel
theorem d_Model_noPiece_36 : decode prog_13_method_18_code 36 = .ok (.ifCond .le 7, 3) := by decide +kernel
theorem d_Model_noPiece_39 : decode prog_13_method_18_code 39 = .ok (.iconst 1, 1) := by decide +kernel
theorem d_Model_noPiece_40 : decode prog_13_method_18_code 40 = .ok (.goto 4, 3) := by decide +kernel
theorem d_Model_noPiece_43 : decode prog_13_method_18_code 43 = .ok (.iconst 0, 1) := by decide +kernel
theorem d_Model_noPiece_44 : decode prog_13_method_18_code 44 = .ok (.ireturn, 1) := by decide +kernel
theorem d_Model_numberOf_0 : decode prog_13_method_16_code 0 = .ok (.iconst 0, 1) := by decide +kernel
theorem d_Model_numberOf_1 : decode prog_13_method_16_code 1 = .ok (.istore_n 2, 1) := by decide +kernel
theorem d_Model_numberOf_2 : decode prog_13_method_16_code 2 = .ok (.aload_n 0, 1) := by decide +kernel
theorem d_Model_numberOf_3 : decode prog_13_method_16_code 3 = .ok (.getfield 22, 3) := by decide +kernel
theorem d_Model_numberOf_6 : decode prog_13_method_16_code 6 = .ok (.iload_n 2, 1) := by decide +kernel
theorem d_Model_numberOf_7 : decode prog_13_method_16_code 7 = .ok (.iaload, 1) := by decide +kernel
theorem d_Model_numberOf_8 : decode prog_13_method_16_code 8 = .ok (.aload_n 0, 1) := by decide +kernel
theorem d_Model_numberOf_9 : decode prog_13_method_16_code 9 = .ok (.getfield 19, 3) := by decide +kernel
theorem d_Model_numberOf_12 : decode prog_13_method_16_code 12 = .ok (.iload_n 1, 1) := by decide +kernel
theorem d_Model_numberOf_13 : decode prog_13_method_16_code 13 = .ok (.iaload, 1) := by decide +kernel
theorem d_Model_numberOf_14 : decode prog_13_method_16_code 14 = .ok (.if_icmp .eq 9, 3) := by decide +kernel
theorem d_Model_numberOf_17 : decode prog_13_method_16_code 17 = .ok (.iinc 2 1, 3) := by decide +kernel
theorem d_Model_numberOf_20 : decode prog_13_method_16_code 20 = .ok (.goto (-18), 3) := by decide +kernel
theorem d_Model_numberOf_23 : decode prog_13_method_16_code 23 = .ok (.iload_n 2, 1) := by decide +kernel
theorem d_Model_numberOf_24 : decode prog_13_method_16_code 24 = .ok (.ireturn, 1) := by decide +kernel
theorem d_Model_order_0 : decode prog_13_method_33_code 0 = .ok (.aload_n 0, 1) := by decide +kernel
theorem d_Model_order_1 : decode prog_13_method_33_code 1 = .ok (.iload_n 1, 1) := by decide +kernel
theorem d_Model_order_2 : decode prog_13_method_33_code 2 = .ok (.invokevirtual 116, 3) := by decide +kernel
theorem d_Model_order_5 : decode prog_13_method_33_code 5 = .ok (.ifCond .eq 5, 3) := by decide +kernel
theorem d_Model_order_8 : decode prog_13_method_33_code 8 = .ok (.iconst 0, 1) := by decide +kernel
theorem d_Model_order_9 : decode prog_13_method_33_code 9 = .ok (.ireturn, 1) := by decide +kernel
theorem d_Model_order_10 : decode prog_13_method_33_code 10 = .ok (.iconst 0, 1) := by decide +kernel
theorem d_Model_order_11 : decode prog_13_method_33_code 11 = .ok (.istore_n 2, 1) := by decide +kernel
theorem d_Model_order_12 : decode prog_13_method_33_code 12 = .ok (.iconst 0, 1) := by decide +kernel
theorem d_Model_order_13 : decode prog_13_method_33_code 13 = .ok (.istore_n 3, 1) := by decide +kernel
theorem d_Model_order_14 : decode prog_13_method_33_code 14 = .ok (.iload_n 3, 1) := by decide +kernel
theorem d_Model_order_15 : decode prog_13_method_33_code 15 = .ok (.aload_n 0, 1) := by decide +kernel
theorem d_Model_order_16 : decode prog_13_method_33_code 16 = .ok (.getfield 90, 3) := by decide +kernel
theorem d_Model_order_19 : decode prog_13_method_33_code 19 = .ok (.if_icmp .ge 69, 3) := by decide +kernel
theorem d_Model_order_22 : decode prog_13_method_33_code 22 = .ok (.iconst 0, 1) := by decide +kernel
theorem d_Model_order_23 : decode prog_13_method_33_code 23 = .ok (.istore 4, 2) := by decide +kernel
theorem d_Model_order_25 : decode prog_13_method_33_code 25 = .ok (.iconst 0, 1) := by decide +kernel
theorem d_Model_order_26 : decode prog_13_method_33_code 26 = .ok (.istore 5, 2) := by decide +kernel
theorem d_Model_order_28 : decode prog_13_method_33_code 28 = .ok (.iload 5, 2) := by decide +kernel
theorem d_Model_order_30 : decode prog_13_method_33_code 30 = .ok (.aload_n 0, 1) := by decide +kernel
theorem d_Model_order_31 : decode prog_13_method_33_code 31 = .ok (.getfield 90, 3) := by decide +kernel
theorem d_Model_order_34 : decode prog_13_method_33_code 34 = .ok (.if_icmp .ge 36, 3) := by decide +kernel
theorem d_Model_order_37 : decode prog_13_method_33_code 37 = .ok (.iload 5, 2) := by decide +kernel
theorem d_Model_order_39 : decode prog_13_method_33_code 39 = .ok (.iload_n 3, 1) := by decide +kernel
theorem d_Model_order_40 : decode prog_13_method_33_code 40 = .ok (.if_icmp .eq 20, 3) := by decide +kernel
theorem d_Model_order_43 : decode prog_13_method_33_code 43 = .ok (.aload_n 0, 1) := by decide +kernel
theorem d_Model_order_44 : decode prog_13_method_33_code 44 = .ok (.iload 5, 2) := by decide +kernel
theorem d_Model_order_46 : decode prog_13_method_33_code 46 = .ok (.iload_n 3, 1) := by decide +kernel
theorem d_Model_order_47 : decode prog_13_method_33_code 47 = .ok (.invokevirtual 143, 3) := by decide +kernel
theorem d_Model_order_50 : decode prog_13_method_33_code 50 = .ok (.ifCond .eq 10, 3) := by decide +kernel
theorem d_Model_order_53 : decode prog_13_method_33_code 53 = .ok (.iload 4, 2) := by decide +kernel
theorem d_Model_order_55 : decode prog_13_method_33_code 55 = .ok (.iconst 1, 1) := by decide +kernel
theorem d_Model_order_56 : decode prog_13_method_33_code 56 = .ok (.iadd, 1) := by decide +kernel
theorem d_Model_order_57 : decode prog_13_method_33_code 57 = .ok (.goto 5, 3) := by decide +kernel
theorem d_Model_order_60 : decode prog_13_method_33_code 60 = .ok (.iload 4, 2) := by decide +kernel
theorem d_Model_order_62 : decode prog_13_method_33_code 62 = .ok (.istore 4, 2) := by decide +kernel
theorem d_Model_order_64 : decode prog_13_method_33_code 64 = .ok (.iinc 5 1, 3) := by decide +kernel
