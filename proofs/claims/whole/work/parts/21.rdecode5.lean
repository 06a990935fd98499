theorem d_Model_order_67 : decode prog_13_method_33_code 67 = .ok (.goto (-39), 3) := by decide +kernel
theorem d_Model_order_70 : decode prog_13_method_33_code 70 = .ok (.iload 4, 2) := by decide +kernel
theorem d_Model_order_72 : decode prog_13_method_33_code 72 = .ok (.iload_n 1, 1) := by decide +kernel
theorem d_Model_order_73 : decode prog_13_method_33_code 73 = .ok (.if_icmp .ne 7, 3) := by decide +kernel
theorem d_Model_order_76 : decode prog_13_method_33_code 76 = .ok (.iload_n 3, 1) := by decide +kernel
theorem d_Model_order_77 : decode prog_13_method_33_code 77 = .ok (.goto 4, 3) := by decide +kernel
theorem d_Model_order_80 : decode prog_13_method_33_code 80 = .ok (.iload_n 2, 1) := by decide +kernel
theorem d_Model_order_81 : decode prog_13_method_33_code 81 = .ok (.istore_n 2, 1) := by decide +kernel
theorem d_Model_order_82 : decode prog_13_method_33_code 82 = .ok (.iinc 3 1, 3) := by decide +kernel
theorem d_Model_order_85 : decode prog_13_method_33_code 85 = .ok (.goto (-71), 3) := by decide +kernel
theorem d_Model_order_88 : decode prog_13_method_33_code 88 = .ok (.iload_n 2, 1) := by decide +kernel
theorem d_Model_order_89 : decode prog_13_method_33_code 89 = .ok (.ireturn, 1) := by decide +kernel
theorem d_Model_outline_0 : decode prog_13_method_26_code 0 = .ok (.aload_n 0, 1) := by decide +kernel
theorem d_Model_outline_1 : decode prog_13_method_26_code 1 = .ok (.iload_n 1, 1) := by decide +kernel
theorem d_Model_outline_2 : decode prog_13_method_26_code 2 = .ok (.invokevirtual 116, 3) := by decide +kernel
theorem d_Model_outline_5 : decode prog_13_method_26_code 5 = .ok (.ifCond .eq 5, 3) := by decide +kernel
theorem d_Model_outline_8 : decode prog_13_method_26_code 8 = .ok (.iconst 0, 1) := by decide +kernel
theorem d_Model_outline_9 : decode prog_13_method_26_code 9 = .ok (.ireturn, 1) := by decide +kernel
theorem d_Model_outline_10 : decode prog_13_method_26_code 10 = .ok (.aload_n 0, 1) := by decide +kernel
theorem d_Model_outline_11 : decode prog_13_method_26_code 11 = .ok (.iload_n 1, 1) := by decide +kernel
theorem d_Model_outline_12 : decode prog_13_method_26_code 12 = .ok (.invokevirtual 133, 3) := by decide +kernel
theorem d_Model_outline_15 : decode prog_13_method_26_code 15 = .ok (.aload_n 0, 1) := by decide +kernel
theorem d_Model_outline_16 : decode prog_13_method_26_code 16 = .ok (.getfield 126, 3) := by decide +kernel
theorem d_Model_outline_19 : decode prog_13_method_26_code 19 = .ok (.ireturn, 1) := by decide +kernel
theorem d_Model_part_0 : decode prog_13_method_15_code 0 = .ok (.aload_n 0, 1) := by decide +kernel
theorem d_Model_part_1 : decode prog_13_method_15_code 1 = .ok (.iload_n 1, 1) := by decide +kernel
theorem d_Model_part_2 : decode prog_13_method_15_code 2 = .ok (.iconst 1, 1) := by decide +kernel
theorem d_Model_part_3 : decode prog_13_method_15_code 3 = .ok (.if_icmp .lt 14, 3) := by decide +kernel
theorem d_Model_part_6 : decode prog_13_method_15_code 6 = .ok (.iload_n 1, 1) := by decide +kernel
theorem d_Model_part_7 : decode prog_13_method_15_code 7 = .ok (.sipush 400, 3) := by decide +kernel
theorem d_Model_part_10 : decode prog_13_method_15_code 10 = .ok (.if_icmp .gt 7, 3) := by decide +kernel
theorem d_Model_part_13 : decode prog_13_method_15_code 13 = .ok (.iconst 0, 1) := by decide +kernel
theorem d_Model_part_14 : decode prog_13_method_15_code 14 = .ok (.goto 4, 3) := by decide +kernel
theorem d_Model_part_17 : decode prog_13_method_15_code 17 = .ok (.iconst 1, 1) := by decide +kernel
theorem d_Model_part_18 : decode prog_13_method_15_code 18 = .ok (.putfield 66, 3) := by decide +kernel
theorem d_Model_part_21 : decode prog_13_method_15_code 21 = .ok (.aload_n 0, 1) := by decide +kernel
theorem d_Model_part_22 : decode prog_13_method_15_code 22 = .ok (.getfield 66, 3) := by decide +kernel
theorem d_Model_part_25 : decode prog_13_method_15_code 25 = .ok (.ifCond .le 5, 3) := by decide +kernel
theorem d_Model_part_28 : decode prog_13_method_15_code 28 = .ok (.iconst 0, 1) := by decide +kernel
theorem d_Model_part_29 : decode prog_13_method_15_code 29 = .ok (.ireturn, 1) := by decide +kernel
theorem d_Model_part_30 : decode prog_13_method_15_code 30 = .ok (.iconst 0, 1) := by decide +kernel
theorem d_Model_part_31 : decode prog_13_method_15_code 31 = .ok (.istore_n 2, 1) := by decide +kernel
theorem d_Model_part_32 : decode prog_13_method_15_code 32 = .ok (.iload_n 2, 1) := by decide +kernel
theorem d_Model_part_33 : decode prog_13_method_15_code 33 = .ok (.aload_n 0, 1) := by decide +kernel
theorem d_Model_part_34 : decode prog_13_method_15_code 34 = .ok (.getfield 56, 3) := by decide +kernel
theorem d_Model_part_37 : decode prog_13_method_15_code 37 = .ok (.aload_n 0, 1) := by decide +kernel
theorem d_Model_part_38 : decode prog_13_method_15_code 38 = .ok (.getfield 60, 3) := by decide +kernel
theorem d_Model_part_41 : decode prog_13_method_15_code 41 = .ok (.imul, 1) := by decide +kernel
theorem d_Model_part_42 : decode prog_13_method_15_code 42 = .ok (.if_icmp .ge 20, 3) := by decide +kernel
theorem d_Model_part_45 : decode prog_13_method_15_code 45 = .ok (.aload_n 0, 1) := by decide +kernel
theorem d_Model_part_46 : decode prog_13_method_15_code 46 = .ok (.getfield 16, 3) := by decide +kernel
theorem d_Model_part_49 : decode prog_13_method_15_code 49 = .ok (.iload_n 2, 1) := by decide +kernel
theorem d_Model_part_50 : decode prog_13_method_15_code 50 = .ok (.aload_n 0, 1) := by decide +kernel
theorem d_Model_part_51 : decode prog_13_method_15_code 51 = .ok (.iload_n 2, 1) := by decide +kernel
theorem d_Model_part_52 : decode prog_13_method_15_code 52 = .ok (.invokevirtual 93, 3) := by decide +kernel
theorem d_Model_part_55 : decode prog_13_method_15_code 55 = .ok (.iastore, 1) := by decide +kernel
theorem d_Model_part_56 : decode prog_13_method_15_code 56 = .ok (.iinc 2 1, 3) := by decide +kernel
theorem d_Model_part_59 : decode prog_13_method_15_code 59 = .ok (.goto (-27), 3) := by decide +kernel
theorem d_Model_part_62 : decode prog_13_method_15_code 62 = .ok (.aload_n 0, 1) := by decide +kernel
theorem d_Model_part_63 : decode prog_13_method_15_code 63 = .ok (.invokevirtual 97, 3) := by decide +kernel
theorem d_Model_part_66 : decode prog_13_method_15_code 66 = .ok (.aload_n 0, 1) := by decide +kernel
theorem d_Model_part_67 : decode prog_13_method_15_code 67 = .ok (.iload_n 1, 1) := by decide +kernel
theorem d_Model_part_68 : decode prog_13_method_15_code 68 = .ok (.invokevirtual 100, 3) := by decide +kernel
theorem d_Model_part_71 : decode prog_13_method_15_code 71 = .ok (.istore_n 2, 1) := by decide +kernel
theorem d_Model_part_72 : decode prog_13_method_15_code 72 = .ok (.iload_n 2, 1) := by decide +kernel
theorem d_Model_part_73 : decode prog_13_method_15_code 73 = .ok (.ifCond .lt 21, 3) := by decide +kernel
theorem d_Model_part_76 : decode prog_13_method_15_code 76 = .ok (.aload_n 0, 1) := by decide +kernel
theorem d_Model_part_77 : decode prog_13_method_15_code 77 = .ok (.iload_n 2, 1) := by decide +kernel
theorem d_Model_part_78 : decode prog_13_method_15_code 78 = .ok (.invokevirtual 103, 3) := by decide +kernel
theorem d_Model_part_81 : decode prog_13_method_15_code 81 = .ok (.aload_n 0, 1) := by decide +kernel
theorem d_Model_part_82 : decode prog_13_method_15_code 82 = .ok (.invokevirtual 97, 3) := by decide +kernel
theorem d_Model_part_85 : decode prog_13_method_15_code 85 = .ok (.aload_n 0, 1) := by decide +kernel
theorem d_Model_part_86 : decode prog_13_method_15_code 86 = .ok (.iload_n 1, 1) := by decide +kernel
theorem d_Model_part_87 : decode prog_13_method_15_code 87 = .ok (.invokevirtual 100, 3) := by decide +kernel
theorem d_Model_part_90 : decode prog_13_method_15_code 90 = .ok (.istore_n 2, 1) := by decide +kernel
theorem d_Model_part_91 : decode prog_13_method_15_code 91 = .ok (.goto (-19), 3) := by decide +kernel
theorem d_Model_part_94 : decode prog_13_method_15_code 94 = .ok (.aload_n 0, 1) := by decide +kernel
theorem d_Model_part_95 : decode prog_13_method_15_code 95 = .ok (.iconst 1, 1) := by decide +kernel
theorem d_Model_part_96 : decode prog_13_method_15_code 96 = .ok (.putfield 77, 3) := by decide +kernel
theorem d_Model_part_99 : decode prog_13_method_15_code 99 = .ok (.aload_n 0, 1) := by decide +kernel
theorem d_Model_part_100 : decode prog_13_method_15_code 100 = .ok (.iconst 0, 1) := by decide +kernel
theorem d_Model_part_101 : decode prog_13_method_15_code 101 = .ok (.putfield 107, 3) := by decide +kernel
theorem d_Model_part_104 : decode prog_13_method_15_code 104 = .ok (.aload_n 0, 1) := by decide +kernel
theorem d_Model_part_105 : decode prog_13_method_15_code 105 = .ok (.getfield 90, 3) := by decide +kernel
theorem d_Model_part_108 : decode prog_13_method_15_code 108 = .ok (.ireturn, 1) := by decide +kernel
theorem d_Model_piece_0 : decode prog_13_method_21_code 0 = .ok (.aload_n 0, 1) := by decide +kernel
theorem d_Model_piece_1 : decode prog_13_method_21_code 1 = .ok (.iload_n 1, 1) := by decide +kernel
theorem d_Model_piece_2 : decode prog_13_method_21_code 2 = .ok (.invokevirtual 116, 3) := by decide +kernel
theorem d_Model_piece_5 : decode prog_13_method_21_code 5 = .ok (.ifCond .eq 5, 3) := by decide +kernel
theorem d_Model_piece_8 : decode prog_13_method_21_code 8 = .ok (.iconst 0, 1) := by decide +kernel
theorem d_Model_piece_9 : decode prog_13_method_21_code 9 = .ok (.ireturn, 1) := by decide +kernel
theorem d_Model_piece_10 : decode prog_13_method_21_code 10 = .ok (.aload_n 0, 1) := by decide +kernel
theorem d_Model_piece_11 : decode prog_13_method_21_code 11 = .ok (.iload_n 2, 1) := by decide +kernel
theorem d_Model_piece_12 : decode prog_13_method_21_code 12 = .ok (.ifCond .lt 13, 3) := by decide +kernel
theorem d_Model_piece_15 : decode prog_13_method_21_code 15 = .ok (.iload_n 2, 1) := by decide +kernel
theorem d_Model_piece_16 : decode prog_13_method_21_code 16 = .ok (.bipush 6, 2) := by decide +kernel
theorem d_Model_piece_18 : decode prog_13_method_21_code 18 = .ok (.if_icmp .gt 7, 3) := by decide +kernel
theorem d_Model_piece_21 : decode prog_13_method_21_code 21 = .ok (.iconst 0, 1) := by decide +kernel
theorem d_Model_piece_22 : decode prog_13_method_21_code 22 = .ok (.goto 4, 3) := by decide +kernel
theorem d_Model_piece_25 : decode prog_13_method_21_code 25 = .ok (.iconst 3, 1) := by decide +kernel
theorem d_Model_piece_26 : decode prog_13_method_21_code 26 = .ok (.putfield 66, 3) := by decide +kernel
theorem d_Model_piece_29 : decode prog_13_method_21_code 29 = .ok (.aload_n 0, 1) := by decide +kernel
theorem d_Model_piece_30 : decode prog_13_method_21_code 30 = .ok (.getfield 66, 3) := by decide +kernel
theorem d_Model_piece_33 : decode prog_13_method_21_code 33 = .ok (.ifCond .le 5, 3) := by decide +kernel
theorem d_Model_piece_36 : decode prog_13_method_21_code 36 = .ok (.iconst 0, 1) := by decide +kernel
theorem d_Model_piece_37 : decode prog_13_method_21_code 37 = .ok (.ireturn, 1) := by decide +kernel
theorem d_Model_piece_38 : decode prog_13_method_21_code 38 = .ok (.iload_n 2, 1) := by decide +kernel
theorem d_Model_piece_39 : decode prog_13_method_21_code 39 = .ok (.iconst 2, 1) := by decide +kernel
theorem d_Model_piece_40 : decode prog_13_method_21_code 40 = .ok (.if_icmp .ge 33, 3) := by decide +kernel
theorem d_Model_piece_43 : decode prog_13_method_21_code 43 = .ok (.iload_n 2, 1) := by decide +kernel
theorem d_Model_piece_44 : decode prog_13_method_21_code 44 = .ok (.ifCond .ne 17, 3) := by decide +kernel
theorem d_Model_piece_47 : decode prog_13_method_21_code 47 = .ok (.aload_n 0, 1) := by decide +kernel
theorem d_Model_piece_48 : decode prog_13_method_21_code 48 = .ok (.getfield 16, 3) := by decide +kernel
theorem d_Model_piece_51 : decode prog_13_method_21_code 51 = .ok (.aload_n 0, 1) := by decide +kernel
theorem d_Model_piece_52 : decode prog_13_method_21_code 52 = .ok (.getfield 22, 3) := by decide +kernel
theorem d_Model_piece_55 : decode prog_13_method_21_code 55 = .ok (.iload_n 1, 1) := by decide +kernel
theorem d_Model_piece_56 : decode prog_13_method_21_code 56 = .ok (.iaload, 1) := by decide +kernel
theorem d_Model_piece_57 : decode prog_13_method_21_code 57 = .ok (.iaload, 1) := by decide +kernel
theorem d_Model_piece_58 : decode prog_13_method_21_code 58 = .ok (.goto 14, 3) := by decide +kernel
theorem d_Model_piece_61 : decode prog_13_method_21_code 61 = .ok (.aload_n 0, 1) := by decide +kernel
theorem d_Model_piece_62 : decode prog_13_method_21_code 62 = .ok (.getfield 25, 3) := by decide +kernel
theorem d_Model_piece_65 : decode prog_13_method_21_code 65 = .ok (.aload_n 0, 1) := by decide +kernel
theorem d_Model_piece_66 : decode prog_13_method_21_code 66 = .ok (.getfield 22, 3) := by decide +kernel
theorem d_Model_piece_69 : decode prog_13_method_21_code 69 = .ok (.iload_n 1, 1) := by decide +kernel
theorem d_Model_piece_70 : decode prog_13_method_21_code 70 = .ok (.iaload, 1) := by decide +kernel
theorem d_Model_piece_71 : decode prog_13_method_21_code 71 = .ok (.iaload, 1) := by decide +kernel
theorem d_Model_piece_72 : decode prog_13_method_21_code 72 = .ok (.ireturn, 1) := by decide +kernel
theorem d_Model_piece_73 : decode prog_13_method_21_code 73 = .ok (.iload_n 2, 1) := by decide +kernel
theorem d_Model_piece_74 : decode prog_13_method_21_code 74 = .ok (.iconst 4, 1) := by decide +kernel
theorem d_Model_piece_75 : decode prog_13_method_21_code 75 = .ok (.if_icmp .ge 12, 3) := by decide +kernel
theorem d_Model_piece_78 : decode prog_13_method_21_code 78 = .ok (.aload_n 0, 1) := by decide +kernel
theorem d_Model_piece_79 : decode prog_13_method_21_code 79 = .ok (.iload_n 1, 1) := by decide +kernel
theorem d_Model_piece_80 : decode prog_13_method_21_code 80 = .ok (.iload_n 2, 1) := by decide +kernel
theorem d_Model_piece_81 : decode prog_13_method_21_code 81 = .ok (.iconst 2, 1) := by decide +kernel
theorem d_Model_piece_82 : decode prog_13_method_21_code 82 = .ok (.isub, 1) := by decide +kernel
theorem d_Model_piece_83 : decode prog_13_method_21_code 83 = .ok (.invokevirtual 113, 3) := by decide +kernel
theorem d_Model_piece_86 : decode prog_13_method_21_code 86 = .ok (.ireturn, 1) := by decide +kernel
theorem d_Model_piece_87 : decode prog_13_method_21_code 87 = .ok (.iload_n 2, 1) := by decide +kernel
theorem d_Model_piece_88 : decode prog_13_method_21_code 88 = .ok (.iconst 4, 1) := by decide +kernel
theorem d_Model_piece_89 : decode prog_13_method_21_code 89 = .ok (.if_icmp .ne 21, 3) := by decide +kernel
theorem d_Model_piece_92 : decode prog_13_method_21_code 92 = .ok (.aload_n 0, 1) := by decide +kernel
theorem d_Model_piece_93 : decode prog_13_method_21_code 93 = .ok (.iload_n 1, 1) := by decide +kernel
theorem d_Model_piece_94 : decode prog_13_method_21_code 94 = .ok (.iconst 2, 1) := by decide +kernel
theorem d_Model_piece_95 : decode prog_13_method_21_code 95 = .ok (.invokevirtual 113, 3) := by decide +kernel
theorem d_Model_piece_98 : decode prog_13_method_21_code 98 = .ok (.aload_n 0, 1) := by decide +kernel
theorem d_Model_piece_99 : decode prog_13_method_21_code 99 = .ok (.iload_n 1, 1) := by decide +kernel
theorem d_Model_piece_100 : decode prog_13_method_21_code 100 = .ok (.iconst 0, 1) := by decide +kernel
theorem d_Model_piece_101 : decode prog_13_method_21_code 101 = .ok (.invokevirtual 113, 3) := by decide +kernel
theorem d_Model_piece_104 : decode prog_13_method_21_code 104 = .ok (.isub, 1) := by decide +kernel
theorem d_Model_piece_105 : decode prog_13_method_21_code 105 = .ok (.iconst 1, 1) := by decide +kernel
theorem d_Model_piece_106 : decode prog_13_method_21_code 106 = .ok (.iadd, 1) := by decide +kernel
theorem d_Model_piece_107 : decode prog_13_method_21_code 107 = .ok (.goto 39, 3) := by decide +kernel
theorem d_Model_piece_110 : decode prog_13_method_21_code 110 = .ok (.iload_n 2, 1) := by decide +kernel
theorem d_Model_piece_111 : decode prog_13_method_21_code 111 = .ok (.iconst 5, 1) := by decide +kernel
theorem d_Model_piece_112 : decode prog_13_method_21_code 112 = .ok (.if_icmp .ne 21, 3) := by decide +kernel
theorem d_Model_piece_115 : decode prog_13_method_21_code 115 = .ok (.aload_n 0, 1) := by decide +kernel
theorem d_Model_piece_116 : decode prog_13_method_21_code 116 = .ok (.iload_n 1, 1) := by decide +kernel
theorem d_Model_piece_117 : decode prog_13_method_21_code 117 = .ok (.iconst 3, 1) := by decide +kernel
theorem d_Model_piece_118 : decode prog_13_method_21_code 118 = .ok (.invokevirtual 113, 3) := by decide +kernel
theorem d_Model_piece_121 : decode prog_13_method_21_code 121 = .ok (.aload_n 0, 1) := by decide +kernel
theorem d_Model_piece_122 : decode prog_13_method_21_code 122 = .ok (.iload_n 1, 1) := by decide +kernel
theorem d_Model_piece_123 : decode prog_13_method_21_code 123 = .ok (.iconst 1, 1) := by decide +kernel
theorem d_Model_piece_124 : decode prog_13_method_21_code 124 = .ok (.invokevirtual 113, 3) := by decide +kernel
theorem d_Model_piece_127 : decode prog_13_method_21_code 127 = .ok (.isub, 1) := by decide +kernel
theorem d_Model_piece_128 : decode prog_13_method_21_code 128 = .ok (.iconst 1, 1) := by decide +kernel
theorem d_Model_piece_129 : decode prog_13_method_21_code 129 = .ok (.iadd, 1) := by decide +kernel
theorem d_Model_piece_130 : decode prog_13_method_21_code 130 = .ok (.goto 16, 3) := by decide +kernel
theorem d_Model_piece_133 : decode prog_13_method_21_code 133 = .ok (.aload_n 0, 1) := by decide +kernel
theorem d_Model_piece_134 : decode prog_13_method_21_code 134 = .ok (.iload_n 1, 1) := by decide +kernel
theorem d_Model_piece_135 : decode prog_13_method_21_code 135 = .ok (.invokevirtual 119, 3) := by decide +kernel
theorem d_Model_piece_138 : decode prog_13_method_21_code 138 = .ok (.ifCond .eq 7, 3) := by decide +kernel
theorem d_Model_piece_141 : decode prog_13_method_21_code 141 = .ok (.iconst 1, 1) := by decide +kernel
theorem d_Model_piece_142 : decode prog_13_method_21_code 142 = .ok (.goto 4, 3) := by decide +kernel
theorem d_Model_piece_145 : decode prog_13_method_21_code 145 = .ok (.iconst 0, 1) := by decide +kernel
theorem d_Model_piece_146 : decode prog_13_method_21_code 146 = .ok (.ireturn, 1) := by decide +kernel
theorem d_Model_pieceOf_0 : decode prog_13_method_17_code 0 = .ok (.aload_n 0, 1) := by decide +kernel
theorem d_Model_pieceOf_1 : decode prog_13_method_17_code 1 = .ok (.aload_n 0, 1) := by decide +kernel
theorem d_Model_pieceOf_2 : decode prog_13_method_17_code 2 = .ok (.getfield 77, 3) := by decide +kernel
theorem d_Model_pieceOf_5 : decode prog_13_method_17_code 5 = .ok (.ifCond .ne 7, 3) := by decide +kernel
theorem d_Model_pieceOf_8 : decode prog_13_method_17_code 8 = .ok (.iconst 1, 1) := by decide +kernel
theorem d_Model_pieceOf_9 : decode prog_13_method_17_code 9 = .ok (.goto 17, 3) := by decide +kernel
theorem d_Model_pieceOf_12 : decode prog_13_method_17_code 12 = .ok (.aload_n 0, 1) := by decide +kernel
theorem d_Model_pieceOf_13 : decode prog_13_method_17_code 13 = .ok (.iload_n 1, 1) := by decide +kernel
theorem d_Model_pieceOf_14 : decode prog_13_method_17_code 14 = .ok (.iload_n 2, 1) := by decide +kernel
theorem d_Model_pieceOf_15 : decode prog_13_method_17_code 15 = .ok (.invokevirtual 69, 3) := by decide +kernel
theorem d_Model_pieceOf_18 : decode prog_13_method_17_code 18 = .ok (.ifCond .eq 7, 3) := by decide +kernel
theorem d_Model_pieceOf_21 : decode prog_13_method_17_code 21 = .ok (.iconst 0, 1) := by decide +kernel
theorem d_Model_pieceOf_22 : decode prog_13_method_17_code 22 = .ok (.goto 4, 3) := by decide +kernel
theorem d_Model_pieceOf_25 : decode prog_13_method_17_code 25 = .ok (.iconst 2, 1) := by decide +kernel
theorem d_Model_pieceOf_26 : decode prog_13_method_17_code 26 = .ok (.putfield 66, 3) := by decide +kernel
theorem d_Model_pieceOf_29 : decode prog_13_method_17_code 29 = .ok (.aload_n 0, 1) := by decide +kernel
theorem d_Model_pieceOf_30 : decode prog_13_method_17_code 30 = .ok (.getfield 66, 3) := by decide +kernel
theorem d_Model_pieceOf_33 : decode prog_13_method_17_code 33 = .ok (.ifCond .le 7, 3) := by decide +kernel
theorem d_Model_pieceOf_36 : decode prog_13_method_17_code 36 = .ok (.iconst 0, 1) := by decide +kernel
theorem d_Model_pieceOf_37 : decode prog_13_method_17_code 37 = .ok (.goto 15, 3) := by decide +kernel
theorem d_Model_pieceOf_40 : decode prog_13_method_17_code 40 = .ok (.aload_n 0, 1) := by decide +kernel
theorem d_Model_pieceOf_41 : decode prog_13_method_17_code 41 = .ok (.aload_n 0, 1) := by decide +kernel
theorem d_Model_pieceOf_42 : decode prog_13_method_17_code 42 = .ok (.getfield 56, 3) := by decide +kernel
theorem d_Model_pieceOf_45 : decode prog_13_method_17_code 45 = .ok (.iload_n 2, 1) := by decide +kernel
theorem d_Model_pieceOf_46 : decode prog_13_method_17_code 46 = .ok (.imul, 1) := by decide +kernel
theorem d_Model_pieceOf_47 : decode prog_13_method_17_code 47 = .ok (.iload_n 1, 1) := by decide +kernel
theorem d_Model_pieceOf_48 : decode prog_13_method_17_code 48 = .ok (.iadd, 1) := by decide +kernel
theorem d_Model_pieceOf_49 : decode prog_13_method_17_code 49 = .ok (.invokevirtual 110, 3) := by decide +kernel
theorem d_Model_pieceOf_52 : decode prog_13_method_17_code 52 = .ok (.ireturn, 1) := by decide +kernel
theorem d_Model_pixel_0 : decode prog_13_method_6_code 0 = .ok (.aload_n 0, 1) := by decide +kernel
theorem d_Model_pixel_1 : decode prog_13_method_6_code 1 = .ok (.aload_n 0, 1) := by decide +kernel
theorem d_Model_pixel_2 : decode prog_13_method_6_code 2 = .ok (.iload_n 1, 1) := by decide +kernel
theorem d_Model_pixel_3 : decode prog_13_method_6_code 3 = .ok (.iload_n 2, 1) := by decide +kernel
theorem d_Model_pixel_4 : decode prog_13_method_6_code 4 = .ok (.invokevirtual 69, 3) := by decide +kernel
theorem d_Model_pixel_7 : decode prog_13_method_6_code 7 = .ok (.ifCond .ne 7, 3) := by decide +kernel
theorem d_Model_pixel_10 : decode prog_13_method_6_code 10 = .ok (.iconst 1, 1) := by decide +kernel
theorem d_Model_pixel_11 : decode prog_13_method_6_code 11 = .ok (.goto 31, 3) := by decide +kernel
theorem d_Model_pixel_14 : decode prog_13_method_6_code 14 = .ok (.iload_n 3, 1) := by decide +kernel
theorem d_Model_pixel_15 : decode prog_13_method_6_code 15 = .ok (.invokestatic 73, 3) := by decide +kernel
theorem d_Model_pixel_18 : decode prog_13_method_6_code 18 = .ok (.ifCond .eq 23, 3) := by decide +kernel
theorem d_Model_pixel_21 : decode prog_13_method_6_code 21 = .ok (.iload 4, 2) := by decide +kernel
theorem d_Model_pixel_23 : decode prog_13_method_6_code 23 = .ok (.invokestatic 73, 3) := by decide +kernel
theorem d_Model_pixel_26 : decode prog_13_method_6_code 26 = .ok (.ifCond .eq 15, 3) := by decide +kernel
theorem d_Model_pixel_29 : decode prog_13_method_6_code 29 = .ok (.iload 5, 2) := by decide +kernel
theorem d_Model_pixel_31 : decode prog_13_method_6_code 31 = .ok (.invokestatic 73, 3) := by decide +kernel
theorem d_Model_pixel_34 : decode prog_13_method_6_code 34 = .ok (.ifCond .eq 7, 3) := by decide +kernel
theorem d_Model_pixel_37 : decode prog_13_method_6_code 37 = .ok (.iconst 0, 1) := by decide +kernel
theorem d_Model_pixel_38 : decode prog_13_method_6_code 38 = .ok (.goto 4, 3) := by decide +kernel
theorem d_Model_pixel_41 : decode prog_13_method_6_code 41 = .ok (.iconst 2, 1) := by decide +kernel
theorem d_Model_pixel_42 : decode prog_13_method_6_code 42 = .ok (.putfield 66, 3) := by decide +kernel
theorem d_Model_pixel_45 : decode prog_13_method_6_code 45 = .ok (.aload_n 0, 1) := by decide +kernel
theorem d_Model_pixel_46 : decode prog_13_method_6_code 46 = .ok (.getfield 66, 3) := by decide +kernel
theorem d_Model_pixel_49 : decode prog_13_method_6_code 49 = .ok (.ifCond .le 5, 3) := by decide +kernel
theorem d_Model_pixel_52 : decode prog_13_method_6_code 52 = .ok (.iconst 0, 1) := by decide +kernel
theorem d_Model_pixel_53 : decode prog_13_method_6_code 53 = .ok (.ireturn, 1) := by decide +kernel
theorem d_Model_pixel_54 : decode prog_13_method_6_code 54 = .ok (.iconst 3, 1) := by decide +kernel
theorem d_Model_pixel_55 : decode prog_13_method_6_code 55 = .ok (.aload_n 0, 1) := by decide +kernel
theorem d_Model_pixel_56 : decode prog_13_method_6_code 56 = .ok (.getfield 56, 3) := by decide +kernel
theorem d_Model_pixel_59 : decode prog_13_method_6_code 59 = .ok (.iload_n 2, 1) := by decide +kernel
theorem d_Model_pixel_60 : decode prog_13_method_6_code 60 = .ok (.imul, 1) := by decide +kernel
theorem d_Model_pixel_61 : decode prog_13_method_6_code 61 = .ok (.iload_n 1, 1) := by decide +kernel
theorem d_Model_pixel_62 : decode prog_13_method_6_code 62 = .ok (.iadd, 1) := by decide +kernel
theorem d_Model_pixel_63 : decode prog_13_method_6_code 63 = .ok (.imul, 1) := by decide +kernel
theorem d_Model_pixel_64 : decode prog_13_method_6_code 64 = .ok (.istore 6, 2) := by decide +kernel
theorem d_Model_pixel_66 : decode prog_13_method_6_code 66 = .ok (.aload_n 0, 1) := by decide +kernel
theorem d_Model_pixel_67 : decode prog_13_method_6_code 67 = .ok (.getfield 7, 3) := by decide +kernel
theorem d_Model_pixel_70 : decode prog_13_method_6_code 70 = .ok (.iload 6, 2) := by decide +kernel
theorem d_Model_pixel_72 : decode prog_13_method_6_code 72 = .ok (.iaload, 1) := by decide +kernel
theorem d_Model_pixel_73 : decode prog_13_method_6_code 73 = .ok (.iload_n 3, 1) := by decide +kernel
theorem d_Model_pixel_74 : decode prog_13_method_6_code 74 = .ok (.if_icmp .ne 33, 3) := by decide +kernel
theorem d_Model_pixel_77 : decode prog_13_method_6_code 77 = .ok (.aload_n 0, 1) := by decide +kernel
theorem d_Model_pixel_78 : decode prog_13_method_6_code 78 = .ok (.getfield 7, 3) := by decide +kernel
theorem d_Model_pixel_81 : decode prog_13_method_6_code 81 = .ok (.iload 6, 2) := by decide +kernel
theorem d_Model_pixel_83 : decode prog_13_method_6_code 83 = .ok (.iconst 1, 1) := by decide +kernel
theorem d_Model_pixel_84 : decode prog_13_method_6_code 84 = .ok (.iadd, 1) := by decide +kernel
theorem d_Model_pixel_85 : decode prog_13_method_6_code 85 = .ok (.iaload, 1) := by decide +kernel
theorem d_Model_pixel_86 : decode prog_13_method_6_code 86 = .ok (.iload 4, 2) := by decide +kernel
theorem d_Model_pixel_88 : decode prog_13_method_6_code 88 = .ok (.if_icmp .ne 19, 3) := by decide +kernel
theorem d_Model_pixel_91 : decode prog_13_method_6_code 91 = .ok (.aload_n 0, 1) := by decide +kernel
theorem d_Model_pixel_92 : decode prog_13_method_6_code 92 = .ok (.getfield 7, 3) := by decide +kernel
theorem d_Model_pixel_95 : decode prog_13_method_6_code 95 = .ok (.iload 6, 2) := by decide +kernel
theorem d_Model_pixel_97 : decode prog_13_method_6_code 97 = .ok (.iconst 2, 1) := by decide +kernel
theorem d_Model_pixel_98 : decode prog_13_method_6_code 98 = .ok (.iadd, 1) := by decide +kernel
theorem d_Model_pixel_99 : decode prog_13_method_6_code 99 = .ok (.iaload, 1) := by decide +kernel
theorem d_Model_pixel_100 : decode prog_13_method_6_code 100 = .ok (.iload 5, 2) := by decide +kernel
theorem d_Model_pixel_102 : decode prog_13_method_6_code 102 = .ok (.if_icmp .ne 5, 3) := by decide +kernel
theorem d_Model_pixel_105 : decode prog_13_method_6_code 105 = .ok (.iconst 0, 1) := by decide +kernel
theorem d_Model_pixel_106 : decode prog_13_method_6_code 106 = .ok (.ireturn, 1) := by decide +kernel
theorem d_Model_pixel_107 : decode prog_13_method_6_code 107 = .ok (.aload_n 0, 1) := by decide +kernel
theorem d_Model_pixel_108 : decode prog_13_method_6_code 108 = .ok (.getfield 7, 3) := by decide +kernel
theorem d_Model_pixel_111 : decode prog_13_method_6_code 111 = .ok (.iload 6, 2) := by decide +kernel
theorem d_Model_pixel_113 : decode prog_13_method_6_code 113 = .ok (.iload_n 3, 1) := by decide +kernel
theorem d_Model_pixel_114 : decode prog_13_method_6_code 114 = .ok (.iastore, 1) := by decide +kernel
theorem d_Model_pixel_115 : decode prog_13_method_6_code 115 = .ok (.aload_n 0, 1) := by decide +kernel
theorem d_Model_pixel_116 : decode prog_13_method_6_code 116 = .ok (.getfield 7, 3) := by decide +kernel
theorem d_Model_pixel_119 : decode prog_13_method_6_code 119 = .ok (.iload 6, 2) := by decide +kernel
theorem d_Model_pixel_121 : decode prog_13_method_6_code 121 = .ok (.iconst 1, 1) := by decide +kernel
theorem d_Model_pixel_122 : decode prog_13_method_6_code 122 = .ok (.iadd, 1) := by decide +kernel
theorem d_Model_pixel_123 : decode prog_13_method_6_code 123 = .ok (.iload 4, 2) := by decide +kernel
theorem d_Model_pixel_125 : decode prog_13_method_6_code 125 = .ok (.iastore, 1) := by decide +kernel
theorem d_Model_pixel_126 : decode prog_13_method_6_code 126 = .ok (.aload_n 0, 1) := by decide +kernel
theorem d_Model_pixel_127 : decode prog_13_method_6_code 127 = .ok (.getfield 7, 3) := by decide +kernel
theorem d_Model_pixel_130 : decode prog_13_method_6_code 130 = .ok (.iload 6, 2) := by decide +kernel
theorem d_Model_pixel_132 : decode prog_13_method_6_code 132 = .ok (.iconst 2, 1) := by decide +kernel
theorem d_Model_pixel_133 : decode prog_13_method_6_code 133 = .ok (.iadd, 1) := by decide +kernel
theorem d_Model_pixel_134 : decode prog_13_method_6_code 134 = .ok (.iload 5, 2) := by decide +kernel
theorem d_Model_pixel_136 : decode prog_13_method_6_code 136 = .ok (.iastore, 1) := by decide +kernel
theorem d_Model_pixel_137 : decode prog_13_method_6_code 137 = .ok (.aload_n 0, 1) := by decide +kernel
theorem d_Model_pixel_138 : decode prog_13_method_6_code 138 = .ok (.iconst 0, 1) := by decide +kernel
theorem d_Model_pixel_139 : decode prog_13_method_6_code 139 = .ok (.putfield 77, 3) := by decide +kernel
theorem d_Model_pixel_142 : decode prog_13_method_6_code 142 = .ok (.iconst 1, 1) := by decide +kernel
theorem d_Model_pixel_143 : decode prog_13_method_6_code 143 = .ok (.ireturn, 1) := by decide +kernel
theorem d_Model_reached_0 : decode prog_13_method_31_code 0 = .ok (.aload_n 0, 1) := by decide +kernel
theorem d_Model_reached_1 : decode prog_13_method_31_code 1 = .ok (.aload_n 0, 1) := by decide +kernel
theorem d_Model_reached_2 : decode prog_13_method_31_code 2 = .ok (.getfield 77, 3) := by decide +kernel
theorem d_Model_reached_5 : decode prog_13_method_31_code 5 = .ok (.ifCond .ne 7, 3) := by decide +kernel
theorem d_Model_reached_8 : decode prog_13_method_31_code 8 = .ok (.iconst 1, 1) := by decide +kernel
theorem d_Model_reached_9 : decode prog_13_method_31_code 9 = .ok (.goto 31, 3) := by decide +kernel
theorem d_Model_reached_12 : decode prog_13_method_31_code 12 = .ok (.aload_n 0, 1) := by decide +kernel
theorem d_Model_reached_13 : decode prog_13_method_31_code 13 = .ok (.iload_n 1, 1) := by decide +kernel
theorem d_Model_reached_14 : decode prog_13_method_31_code 14 = .ok (.iload_n 2, 1) := by decide +kernel
theorem d_Model_reached_15 : decode prog_13_method_31_code 15 = .ok (.invokevirtual 69, 3) := by decide +kernel
theorem d_Model_reached_18 : decode prog_13_method_31_code 18 = .ok (.ifCond .ne 7, 3) := by decide +kernel
theorem d_Model_reached_21 : decode prog_13_method_31_code 21 = .ok (.iconst 2, 1) := by decide +kernel
theorem d_Model_reached_22 : decode prog_13_method_31_code 22 = .ok (.goto 18, 3) := by decide +kernel
