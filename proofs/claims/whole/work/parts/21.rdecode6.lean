theorem d_Model_reached_25 : decode prog_13_method_31_code 25 = .ok (.iload_n 3, 1) := by decide +kernel
theorem d_Model_reached_26 : decode prog_13_method_31_code 26 = .ok (.ifCond .lt 13, 3) := by decide +kernel
theorem d_Model_reached_29 : decode prog_13_method_31_code 29 = .ok (.iload_n 3, 1) := by decide +kernel
theorem d_Model_reached_30 : decode prog_13_method_31_code 30 = .ok (.bipush 10, 2) := by decide +kernel
theorem d_Model_reached_32 : decode prog_13_method_31_code 32 = .ok (.if_icmp .gt 7, 3) := by decide +kernel
theorem d_Model_reached_35 : decode prog_13_method_31_code 35 = .ok (.iconst 0, 1) := by decide +kernel
theorem d_Model_reached_36 : decode prog_13_method_31_code 36 = .ok (.goto 4, 3) := by decide +kernel
theorem d_Model_reached_39 : decode prog_13_method_31_code 39 = .ok (.iconst 3, 1) := by decide +kernel
theorem d_Model_reached_40 : decode prog_13_method_31_code 40 = .ok (.putfield 66, 3) := by decide +kernel
theorem d_Model_reached_43 : decode prog_13_method_31_code 43 = .ok (.aload_n 0, 1) := by decide +kernel
theorem d_Model_reached_44 : decode prog_13_method_31_code 44 = .ok (.getfield 66, 3) := by decide +kernel
theorem d_Model_reached_47 : decode prog_13_method_31_code 47 = .ok (.ifCond .ne 29, 3) := by decide +kernel
theorem d_Model_reached_50 : decode prog_13_method_31_code 50 = .ok (.aload_n 0, 1) := by decide +kernel
theorem d_Model_reached_51 : decode prog_13_method_31_code 51 = .ok (.aload_n 0, 1) := by decide +kernel
theorem d_Model_reached_52 : decode prog_13_method_31_code 52 = .ok (.aload_n 0, 1) := by decide +kernel
theorem d_Model_reached_53 : decode prog_13_method_31_code 53 = .ok (.getfield 56, 3) := by decide +kernel
theorem d_Model_reached_56 : decode prog_13_method_31_code 56 = .ok (.iload_n 2, 1) := by decide +kernel
theorem d_Model_reached_57 : decode prog_13_method_31_code 57 = .ok (.imul, 1) := by decide +kernel
theorem d_Model_reached_58 : decode prog_13_method_31_code 58 = .ok (.iload_n 1, 1) := by decide +kernel
theorem d_Model_reached_59 : decode prog_13_method_31_code 59 = .ok (.iadd, 1) := by decide +kernel
theorem d_Model_reached_60 : decode prog_13_method_31_code 60 = .ok (.invokevirtual 110, 3) := by decide +kernel
theorem d_Model_reached_63 : decode prog_13_method_31_code 63 = .ok (.iload_n 1, 1) := by decide +kernel
theorem d_Model_reached_64 : decode prog_13_method_31_code 64 = .ok (.iload_n 2, 1) := by decide +kernel
theorem d_Model_reached_65 : decode prog_13_method_31_code 65 = .ok (.iload_n 3, 1) := by decide +kernel
theorem d_Model_reached_66 : decode prog_13_method_31_code 66 = .ok (.invokevirtual 140, 3) := by decide +kernel
theorem d_Model_reached_69 : decode prog_13_method_31_code 69 = .ok (.ifCond .eq 7, 3) := by decide +kernel
theorem d_Model_reached_72 : decode prog_13_method_31_code 72 = .ok (.iconst 1, 1) := by decide +kernel
theorem d_Model_reached_73 : decode prog_13_method_31_code 73 = .ok (.goto 4, 3) := by decide +kernel
theorem d_Model_reached_76 : decode prog_13_method_31_code 76 = .ok (.iconst 0, 1) := by decide +kernel
theorem d_Model_reached_77 : decode prog_13_method_31_code 77 = .ok (.ireturn, 1) := by decide +kernel
theorem d_Model_smallest_0 : decode prog_13_method_13_code 0 = .ok (.iconst (-1), 1) := by decide +kernel
theorem d_Model_smallest_1 : decode prog_13_method_13_code 1 = .ok (.istore_n 2, 1) := by decide +kernel
theorem d_Model_smallest_2 : decode prog_13_method_13_code 2 = .ok (.iconst 0, 1) := by decide +kernel
theorem d_Model_smallest_3 : decode prog_13_method_13_code 3 = .ok (.istore_n 3, 1) := by decide +kernel
theorem d_Model_smallest_4 : decode prog_13_method_13_code 4 = .ok (.iload_n 3, 1) := by decide +kernel
theorem d_Model_smallest_5 : decode prog_13_method_13_code 5 = .ok (.aload_n 0, 1) := by decide +kernel
theorem d_Model_smallest_6 : decode prog_13_method_13_code 6 = .ok (.getfield 90, 3) := by decide +kernel
theorem d_Model_smallest_9 : decode prog_13_method_13_code 9 = .ok (.if_icmp .ge 51, 3) := by decide +kernel
theorem d_Model_smallest_12 : decode prog_13_method_13_code 12 = .ok (.aload_n 0, 1) := by decide +kernel
theorem d_Model_smallest_13 : decode prog_13_method_13_code 13 = .ok (.getfield 22, 3) := by decide +kernel
theorem d_Model_smallest_16 : decode prog_13_method_13_code 16 = .ok (.iload_n 3, 1) := by decide +kernel
theorem d_Model_smallest_17 : decode prog_13_method_13_code 17 = .ok (.iaload, 1) := by decide +kernel
theorem d_Model_smallest_18 : decode prog_13_method_13_code 18 = .ok (.istore 4, 2) := by decide +kernel
theorem d_Model_smallest_20 : decode prog_13_method_13_code 20 = .ok (.aload_n 0, 1) := by decide +kernel
theorem d_Model_smallest_21 : decode prog_13_method_13_code 21 = .ok (.getfield 25, 3) := by decide +kernel
theorem d_Model_smallest_24 : decode prog_13_method_13_code 24 = .ok (.iload 4, 2) := by decide +kernel
theorem d_Model_smallest_26 : decode prog_13_method_13_code 26 = .ok (.iaload, 1) := by decide +kernel
theorem d_Model_smallest_27 : decode prog_13_method_13_code 27 = .ok (.iload_n 1, 1) := by decide +kernel
theorem d_Model_smallest_28 : decode prog_13_method_13_code 28 = .ok (.if_icmp .ge 26, 3) := by decide +kernel
theorem d_Model_smallest_31 : decode prog_13_method_13_code 31 = .ok (.iload_n 2, 1) := by decide +kernel
theorem d_Model_smallest_32 : decode prog_13_method_13_code 32 = .ok (.ifCond .lt 19, 3) := by decide +kernel
theorem d_Model_smallest_35 : decode prog_13_method_13_code 35 = .ok (.aload_n 0, 1) := by decide +kernel
theorem d_Model_smallest_36 : decode prog_13_method_13_code 36 = .ok (.getfield 25, 3) := by decide +kernel
theorem d_Model_smallest_39 : decode prog_13_method_13_code 39 = .ok (.iload 4, 2) := by decide +kernel
theorem d_Model_smallest_41 : decode prog_13_method_13_code 41 = .ok (.iaload, 1) := by decide +kernel
theorem d_Model_smallest_42 : decode prog_13_method_13_code 42 = .ok (.aload_n 0, 1) := by decide +kernel
theorem d_Model_smallest_43 : decode prog_13_method_13_code 43 = .ok (.getfield 25, 3) := by decide +kernel
theorem d_Model_smallest_46 : decode prog_13_method_13_code 46 = .ok (.iload_n 2, 1) := by decide +kernel
theorem d_Model_smallest_47 : decode prog_13_method_13_code 47 = .ok (.iaload, 1) := by decide +kernel
theorem d_Model_smallest_48 : decode prog_13_method_13_code 48 = .ok (.if_icmp .ge 6, 3) := by decide +kernel
theorem d_Model_smallest_51 : decode prog_13_method_13_code 51 = .ok (.iload 4, 2) := by decide +kernel
theorem d_Model_smallest_53 : decode prog_13_method_13_code 53 = .ok (.istore_n 2, 1) := by decide +kernel
theorem d_Model_smallest_54 : decode prog_13_method_13_code 54 = .ok (.iinc 3 1, 3) := by decide +kernel
theorem d_Model_smallest_57 : decode prog_13_method_13_code 57 = .ok (.goto (-53), 3) := by decide +kernel
theorem d_Model_smallest_60 : decode prog_13_method_13_code 60 = .ok (.aload_n 0, 1) := by decide +kernel
theorem d_Model_smallest_61 : decode prog_13_method_13_code 61 = .ok (.getfield 90, 3) := by decide +kernel
theorem d_Model_smallest_64 : decode prog_13_method_13_code 64 = .ok (.iconst 1, 1) := by decide +kernel
theorem d_Model_smallest_65 : decode prog_13_method_13_code 65 = .ok (.if_icmp .le 7, 3) := by decide +kernel
theorem d_Model_smallest_68 : decode prog_13_method_13_code 68 = .ok (.iload_n 2, 1) := by decide +kernel
theorem d_Model_smallest_69 : decode prog_13_method_13_code 69 = .ok (.goto 4, 3) := by decide +kernel
theorem d_Model_smallest_72 : decode prog_13_method_13_code 72 = .ok (.iconst (-1), 1) := by decide +kernel
theorem d_Model_smallest_73 : decode prog_13_method_13_code 73 = .ok (.ireturn, 1) := by decide +kernel
theorem d_Model_sorted_0 : decode prog_13_method_41_code 0 = .ok (.aload_n 0, 1) := by decide +kernel
theorem d_Model_sorted_1 : decode prog_13_method_41_code 1 = .ok (.iload_n 1, 1) := by decide +kernel
theorem d_Model_sorted_2 : decode prog_13_method_41_code 2 = .ok (.ifCond .lt 11, 3) := by decide +kernel
theorem d_Model_sorted_5 : decode prog_13_method_41_code 5 = .ok (.iload_n 1, 1) := by decide +kernel
theorem d_Model_sorted_6 : decode prog_13_method_41_code 6 = .ok (.aload_n 0, 1) := by decide +kernel
theorem d_Model_sorted_7 : decode prog_13_method_41_code 7 = .ok (.getfield 63, 3) := by decide +kernel
theorem d_Model_sorted_10 : decode prog_13_method_41_code 10 = .ok (.if_icmp .lt 7, 3) := by decide +kernel
theorem d_Model_sorted_13 : decode prog_13_method_41_code 13 = .ok (.iconst 1, 1) := by decide +kernel
theorem d_Model_sorted_14 : decode prog_13_method_41_code 14 = .ok (.goto 4, 3) := by decide +kernel
theorem d_Model_sorted_17 : decode prog_13_method_41_code 17 = .ok (.iconst 0, 1) := by decide +kernel
theorem d_Model_sorted_18 : decode prog_13_method_41_code 18 = .ok (.putfield 66, 3) := by decide +kernel
theorem d_Model_sorted_21 : decode prog_13_method_41_code 21 = .ok (.iconst 0, 1) := by decide +kernel
theorem d_Model_sorted_22 : decode prog_13_method_41_code 22 = .ok (.istore_n 2, 1) := by decide +kernel
theorem d_Model_sorted_23 : decode prog_13_method_41_code 23 = .ok (.iconst 0, 1) := by decide +kernel
theorem d_Model_sorted_24 : decode prog_13_method_41_code 24 = .ok (.istore_n 3, 1) := by decide +kernel
theorem d_Model_sorted_25 : decode prog_13_method_41_code 25 = .ok (.iload_n 3, 1) := by decide +kernel
theorem d_Model_sorted_26 : decode prog_13_method_41_code 26 = .ok (.aload_n 0, 1) := by decide +kernel
theorem d_Model_sorted_27 : decode prog_13_method_41_code 27 = .ok (.getfield 63, 3) := by decide +kernel
theorem d_Model_sorted_30 : decode prog_13_method_41_code 30 = .ok (.if_icmp .ge 94, 3) := by decide +kernel
theorem d_Model_sorted_33 : decode prog_13_method_41_code 33 = .ok (.aload_n 0, 1) := by decide +kernel
theorem d_Model_sorted_34 : decode prog_13_method_41_code 34 = .ok (.getfield 66, 3) := by decide +kernel
theorem d_Model_sorted_37 : decode prog_13_method_41_code 37 = .ok (.ifCond .ne 87, 3) := by decide +kernel
theorem d_Model_sorted_40 : decode prog_13_method_41_code 40 = .ok (.iconst 0, 1) := by decide +kernel
theorem d_Model_sorted_41 : decode prog_13_method_41_code 41 = .ok (.istore 4, 2) := by decide +kernel
theorem d_Model_sorted_43 : decode prog_13_method_41_code 43 = .ok (.iconst 0, 1) := by decide +kernel
theorem d_Model_sorted_44 : decode prog_13_method_41_code 44 = .ok (.istore 5, 2) := by decide +kernel
theorem d_Model_sorted_46 : decode prog_13_method_41_code 46 = .ok (.iload 5, 2) := by decide +kernel
theorem d_Model_sorted_48 : decode prog_13_method_41_code 48 = .ok (.aload_n 0, 1) := by decide +kernel
theorem d_Model_sorted_49 : decode prog_13_method_41_code 49 = .ok (.getfield 63, 3) := by decide +kernel
theorem d_Model_sorted_52 : decode prog_13_method_41_code 52 = .ok (.if_icmp .ge 54, 3) := by decide +kernel
theorem d_Model_sorted_55 : decode prog_13_method_41_code 55 = .ok (.aload_n 0, 1) := by decide +kernel
theorem d_Model_sorted_56 : decode prog_13_method_41_code 56 = .ok (.iload 5, 2) := by decide +kernel
theorem d_Model_sorted_58 : decode prog_13_method_41_code 58 = .ok (.invokevirtual 159, 3) := by decide +kernel
theorem d_Model_sorted_61 : decode prog_13_method_41_code 61 = .ok (.aload_n 0, 1) := by decide +kernel
theorem d_Model_sorted_62 : decode prog_13_method_41_code 62 = .ok (.iload_n 3, 1) := by decide +kernel
theorem d_Model_sorted_63 : decode prog_13_method_41_code 63 = .ok (.invokevirtual 159, 3) := by decide +kernel
theorem d_Model_sorted_66 : decode prog_13_method_41_code 66 = .ok (.if_icmp .gt 23, 3) := by decide +kernel
theorem d_Model_sorted_69 : decode prog_13_method_41_code 69 = .ok (.aload_n 0, 1) := by decide +kernel
theorem d_Model_sorted_70 : decode prog_13_method_41_code 70 = .ok (.iload 5, 2) := by decide +kernel
theorem d_Model_sorted_72 : decode prog_13_method_41_code 72 = .ok (.invokevirtual 159, 3) := by decide +kernel
theorem d_Model_sorted_75 : decode prog_13_method_41_code 75 = .ok (.aload_n 0, 1) := by decide +kernel
theorem d_Model_sorted_76 : decode prog_13_method_41_code 76 = .ok (.iload_n 3, 1) := by decide +kernel
theorem d_Model_sorted_77 : decode prog_13_method_41_code 77 = .ok (.invokevirtual 159, 3) := by decide +kernel
theorem d_Model_sorted_80 : decode prog_13_method_41_code 80 = .ok (.if_icmp .ne 16, 3) := by decide +kernel
theorem d_Model_sorted_83 : decode prog_13_method_41_code 83 = .ok (.iload 5, 2) := by decide +kernel
theorem d_Model_sorted_85 : decode prog_13_method_41_code 85 = .ok (.iload_n 3, 1) := by decide +kernel
theorem d_Model_sorted_86 : decode prog_13_method_41_code 86 = .ok (.if_icmp .ge 10, 3) := by decide +kernel
theorem d_Model_sorted_89 : decode prog_13_method_41_code 89 = .ok (.iload 4, 2) := by decide +kernel
theorem d_Model_sorted_91 : decode prog_13_method_41_code 91 = .ok (.iconst 1, 1) := by decide +kernel
theorem d_Model_sorted_92 : decode prog_13_method_41_code 92 = .ok (.iadd, 1) := by decide +kernel
theorem d_Model_sorted_93 : decode prog_13_method_41_code 93 = .ok (.goto 5, 3) := by decide +kernel
theorem d_Model_sorted_96 : decode prog_13_method_41_code 96 = .ok (.iload 4, 2) := by decide +kernel
theorem d_Model_sorted_98 : decode prog_13_method_41_code 98 = .ok (.istore 4, 2) := by decide +kernel
theorem d_Model_sorted_100 : decode prog_13_method_41_code 100 = .ok (.iinc 5 1, 3) := by decide +kernel
theorem d_Model_sorted_103 : decode prog_13_method_41_code 103 = .ok (.goto (-57), 3) := by decide +kernel
theorem d_Model_sorted_106 : decode prog_13_method_41_code 106 = .ok (.iload 4, 2) := by decide +kernel
theorem d_Model_sorted_108 : decode prog_13_method_41_code 108 = .ok (.iload_n 1, 1) := by decide +kernel
theorem d_Model_sorted_109 : decode prog_13_method_41_code 109 = .ok (.if_icmp .ne 7, 3) := by decide +kernel
theorem d_Model_sorted_112 : decode prog_13_method_41_code 112 = .ok (.iload_n 3, 1) := by decide +kernel
theorem d_Model_sorted_113 : decode prog_13_method_41_code 113 = .ok (.goto 4, 3) := by decide +kernel
theorem d_Model_sorted_116 : decode prog_13_method_41_code 116 = .ok (.iload_n 2, 1) := by decide +kernel
theorem d_Model_sorted_117 : decode prog_13_method_41_code 117 = .ok (.istore_n 2, 1) := by decide +kernel
theorem d_Model_sorted_118 : decode prog_13_method_41_code 118 = .ok (.iinc 3 1, 3) := by decide +kernel
theorem d_Model_sorted_121 : decode prog_13_method_41_code 121 = .ok (.goto (-96), 3) := by decide +kernel
theorem d_Model_sorted_124 : decode prog_13_method_41_code 124 = .ok (.iload_n 2, 1) := by decide +kernel
theorem d_Model_sorted_125 : decode prog_13_method_41_code 125 = .ok (.ireturn, 1) := by decide +kernel
theorem d_Model_thrown_0 : decode prog_13_method_3_code 0 = .ok (.aload_n 0, 1) := by decide +kernel
theorem d_Model_thrown_1 : decode prog_13_method_3_code 1 = .ok (.getfield 66, 3) := by decide +kernel
theorem d_Model_thrown_4 : decode prog_13_method_3_code 4 = .ok (.ireturn, 1) := by decide +kernel
theorem d_Model_walk_0 : decode prog_13_method_25_code 0 = .ok (.aload_n 0, 1) := by decide +kernel
theorem d_Model_walk_1 : decode prog_13_method_25_code 1 = .ok (.getfield 22, 3) := by decide +kernel
theorem d_Model_walk_4 : decode prog_13_method_25_code 4 = .ok (.iload_n 1, 1) := by decide +kernel
theorem d_Model_walk_5 : decode prog_13_method_25_code 5 = .ok (.iaload, 1) := by decide +kernel
theorem d_Model_walk_6 : decode prog_13_method_25_code 6 = .ok (.aload_n 0, 1) := by decide +kernel
theorem d_Model_walk_7 : decode prog_13_method_25_code 7 = .ok (.getfield 56, 3) := by decide +kernel
theorem d_Model_walk_10 : decode prog_13_method_25_code 10 = .ok (.irem, 1) := by decide +kernel
theorem d_Model_walk_11 : decode prog_13_method_25_code 11 = .ok (.istore_n 2, 1) := by decide +kernel
theorem d_Model_walk_12 : decode prog_13_method_25_code 12 = .ok (.aload_n 0, 1) := by decide +kernel
theorem d_Model_walk_13 : decode prog_13_method_25_code 13 = .ok (.getfield 22, 3) := by decide +kernel
theorem d_Model_walk_16 : decode prog_13_method_25_code 16 = .ok (.iload_n 1, 1) := by decide +kernel
theorem d_Model_walk_17 : decode prog_13_method_25_code 17 = .ok (.iaload, 1) := by decide +kernel
theorem d_Model_walk_18 : decode prog_13_method_25_code 18 = .ok (.aload_n 0, 1) := by decide +kernel
theorem d_Model_walk_19 : decode prog_13_method_25_code 19 = .ok (.getfield 56, 3) := by decide +kernel
theorem d_Model_walk_22 : decode prog_13_method_25_code 22 = .ok (.idiv, 1) := by decide +kernel
theorem d_Model_walk_23 : decode prog_13_method_25_code 23 = .ok (.istore_n 3, 1) := by decide +kernel
theorem d_Model_walk_24 : decode prog_13_method_25_code 24 = .ok (.iload_n 2, 1) := by decide +kernel
theorem d_Model_walk_25 : decode prog_13_method_25_code 25 = .ok (.istore 4, 2) := by decide +kernel
theorem d_Model_walk_27 : decode prog_13_method_25_code 27 = .ok (.iload_n 3, 1) := by decide +kernel
theorem d_Model_walk_28 : decode prog_13_method_25_code 28 = .ok (.istore 5, 2) := by decide +kernel
theorem d_Model_walk_30 : decode prog_13_method_25_code 30 = .ok (.iconst 0, 1) := by decide +kernel
theorem d_Model_walk_31 : decode prog_13_method_25_code 31 = .ok (.istore 6, 2) := by decide +kernel
theorem d_Model_walk_33 : decode prog_13_method_25_code 33 = .ok (.aload_n 0, 1) := by decide +kernel
theorem d_Model_walk_34 : decode prog_13_method_25_code 34 = .ok (.iconst 0, 1) := by decide +kernel
theorem d_Model_walk_35 : decode prog_13_method_25_code 35 = .ok (.putfield 126, 3) := by decide +kernel
theorem d_Model_walk_38 : decode prog_13_method_25_code 38 = .ok (.iconst 1, 1) := by decide +kernel
theorem d_Model_walk_39 : decode prog_13_method_25_code 39 = .ok (.istore 7, 2) := by decide +kernel
theorem d_Model_walk_41 : decode prog_13_method_25_code 41 = .ok (.iload 7, 2) := by decide +kernel
theorem d_Model_walk_43 : decode prog_13_method_25_code 43 = .ok (.ifCond .eq 184, 3) := by decide +kernel
theorem d_Model_walk_46 : decode prog_13_method_25_code 46 = .ok (.aload_n 0, 1) := by decide +kernel
theorem d_Model_walk_47 : decode prog_13_method_25_code 47 = .ok (.getfield 126, 3) := by decide +kernel
theorem d_Model_walk_50 : decode prog_13_method_25_code 50 = .ok (.ifCond .ne 22, 3) := by decide +kernel
theorem d_Model_walk_53 : decode prog_13_method_25_code 53 = .ok (.aload_n 0, 1) := by decide +kernel
theorem d_Model_walk_54 : decode prog_13_method_25_code 54 = .ok (.getfield 31, 3) := by decide +kernel
theorem d_Model_walk_57 : decode prog_13_method_25_code 57 = .ok (.iconst 0, 1) := by decide +kernel
theorem d_Model_walk_58 : decode prog_13_method_25_code 58 = .ok (.iload_n 2, 1) := by decide +kernel
theorem d_Model_walk_59 : decode prog_13_method_25_code 59 = .ok (.iastore, 1) := by decide +kernel
theorem d_Model_walk_60 : decode prog_13_method_25_code 60 = .ok (.aload_n 0, 1) := by decide +kernel
theorem d_Model_walk_61 : decode prog_13_method_25_code 61 = .ok (.getfield 34, 3) := by decide +kernel
theorem d_Model_walk_64 : decode prog_13_method_25_code 64 = .ok (.iconst 0, 1) := by decide +kernel
theorem d_Model_walk_65 : decode prog_13_method_25_code 65 = .ok (.iload_n 3, 1) := by decide +kernel
theorem d_Model_walk_66 : decode prog_13_method_25_code 66 = .ok (.iastore, 1) := by decide +kernel
theorem d_Model_walk_67 : decode prog_13_method_25_code 67 = .ok (.aload_n 0, 1) := by decide +kernel
theorem d_Model_walk_68 : decode prog_13_method_25_code 68 = .ok (.iconst 1, 1) := by decide +kernel
theorem d_Model_walk_69 : decode prog_13_method_25_code 69 = .ok (.putfield 126, 3) := by decide +kernel
theorem d_Model_walk_72 : decode prog_13_method_25_code 72 = .ok (.iload_n 2, 1) := by decide +kernel
theorem d_Model_walk_73 : decode prog_13_method_25_code 73 = .ok (.iload 6, 2) := by decide +kernel
theorem d_Model_walk_75 : decode prog_13_method_25_code 75 = .ok (.ifCond .ne 7, 3) := by decide +kernel
theorem d_Model_walk_78 : decode prog_13_method_25_code 78 = .ok (.iconst 1, 1) := by decide +kernel
theorem d_Model_walk_79 : decode prog_13_method_25_code 79 = .ok (.goto 14, 3) := by decide +kernel
theorem d_Model_walk_82 : decode prog_13_method_25_code 82 = .ok (.iload 6, 2) := by decide +kernel
theorem d_Model_walk_84 : decode prog_13_method_25_code 84 = .ok (.iconst 2, 1) := by decide +kernel
theorem d_Model_walk_85 : decode prog_13_method_25_code 85 = .ok (.if_icmp .ne 7, 3) := by decide +kernel
theorem d_Model_walk_88 : decode prog_13_method_25_code 88 = .ok (.iconst (-1), 1) := by decide +kernel
theorem d_Model_walk_89 : decode prog_13_method_25_code 89 = .ok (.goto 4, 3) := by decide +kernel
theorem d_Model_walk_92 : decode prog_13_method_25_code 92 = .ok (.iconst 0, 1) := by decide +kernel
theorem d_Model_walk_93 : decode prog_13_method_25_code 93 = .ok (.iadd, 1) := by decide +kernel
theorem d_Model_walk_94 : decode prog_13_method_25_code 94 = .ok (.istore_n 2, 1) := by decide +kernel
theorem d_Model_walk_95 : decode prog_13_method_25_code 95 = .ok (.iload_n 3, 1) := by decide +kernel
theorem d_Model_walk_96 : decode prog_13_method_25_code 96 = .ok (.iload 6, 2) := by decide +kernel
theorem d_Model_walk_98 : decode prog_13_method_25_code 98 = .ok (.iconst 1, 1) := by decide +kernel
theorem d_Model_walk_99 : decode prog_13_method_25_code 99 = .ok (.if_icmp .ne 7, 3) := by decide +kernel
theorem d_Model_walk_102 : decode prog_13_method_25_code 102 = .ok (.iconst 1, 1) := by decide +kernel
theorem d_Model_walk_103 : decode prog_13_method_25_code 103 = .ok (.goto 14, 3) := by decide +kernel
theorem d_Model_walk_106 : decode prog_13_method_25_code 106 = .ok (.iload 6, 2) := by decide +kernel
theorem d_Model_walk_108 : decode prog_13_method_25_code 108 = .ok (.iconst 3, 1) := by decide +kernel
theorem d_Model_walk_109 : decode prog_13_method_25_code 109 = .ok (.if_icmp .ne 7, 3) := by decide +kernel
theorem d_Model_walk_112 : decode prog_13_method_25_code 112 = .ok (.iconst (-1), 1) := by decide +kernel
theorem d_Model_walk_113 : decode prog_13_method_25_code 113 = .ok (.goto 4, 3) := by decide +kernel
theorem d_Model_walk_116 : decode prog_13_method_25_code 116 = .ok (.iconst 0, 1) := by decide +kernel
theorem d_Model_walk_117 : decode prog_13_method_25_code 117 = .ok (.iadd, 1) := by decide +kernel
theorem d_Model_walk_118 : decode prog_13_method_25_code 118 = .ok (.istore_n 3, 1) := by decide +kernel
theorem d_Model_walk_119 : decode prog_13_method_25_code 119 = .ok (.iload_n 2, 1) := by decide +kernel
theorem d_Model_walk_120 : decode prog_13_method_25_code 120 = .ok (.iload 4, 2) := by decide +kernel
theorem d_Model_walk_122 : decode prog_13_method_25_code 122 = .ok (.if_icmp .ne 9, 3) := by decide +kernel
theorem d_Model_walk_125 : decode prog_13_method_25_code 125 = .ok (.iload_n 3, 1) := by decide +kernel
theorem d_Model_walk_126 : decode prog_13_method_25_code 126 = .ok (.iload 5, 2) := by decide +kernel
theorem d_Model_walk_128 : decode prog_13_method_25_code 128 = .ok (.if_icmp .eq 7, 3) := by decide +kernel
theorem d_Model_walk_131 : decode prog_13_method_25_code 131 = .ok (.iconst 1, 1) := by decide +kernel
theorem d_Model_walk_132 : decode prog_13_method_25_code 132 = .ok (.goto 4, 3) := by decide +kernel
theorem d_Model_walk_135 : decode prog_13_method_25_code 135 = .ok (.iconst 0, 1) := by decide +kernel
theorem d_Model_walk_136 : decode prog_13_method_25_code 136 = .ok (.istore 7, 2) := by decide +kernel
theorem d_Model_walk_138 : decode prog_13_method_25_code 138 = .ok (.aload_n 0, 1) := by decide +kernel
theorem d_Model_walk_139 : decode prog_13_method_25_code 139 = .ok (.iload_n 1, 1) := by decide +kernel
theorem d_Model_walk_140 : decode prog_13_method_25_code 140 = .ok (.iload_n 2, 1) := by decide +kernel
theorem d_Model_walk_141 : decode prog_13_method_25_code 141 = .ok (.iload_n 3, 1) := by decide +kernel
theorem d_Model_walk_142 : decode prog_13_method_25_code 142 = .ok (.iload 6, 2) := by decide +kernel
theorem d_Model_walk_144 : decode prog_13_method_25_code 144 = .ok (.iconst 1, 1) := by decide +kernel
theorem d_Model_walk_145 : decode prog_13_method_25_code 145 = .ok (.invokevirtual 129, 3) := by decide +kernel
theorem d_Model_walk_148 : decode prog_13_method_25_code 148 = .ok (.ifCond .ne 7, 3) := by decide +kernel
theorem d_Model_walk_151 : decode prog_13_method_25_code 151 = .ok (.iconst 1, 1) := by decide +kernel
theorem d_Model_walk_152 : decode prog_13_method_25_code 152 = .ok (.goto 21, 3) := by decide +kernel
theorem d_Model_walk_155 : decode prog_13_method_25_code 155 = .ok (.aload_n 0, 1) := by decide +kernel
theorem d_Model_walk_156 : decode prog_13_method_25_code 156 = .ok (.iload_n 1, 1) := by decide +kernel
theorem d_Model_walk_157 : decode prog_13_method_25_code 157 = .ok (.iload_n 2, 1) := by decide +kernel
theorem d_Model_walk_158 : decode prog_13_method_25_code 158 = .ok (.iload_n 3, 1) := by decide +kernel
theorem d_Model_walk_159 : decode prog_13_method_25_code 159 = .ok (.iload 6, 2) := by decide +kernel
theorem d_Model_walk_161 : decode prog_13_method_25_code 161 = .ok (.iconst 0, 1) := by decide +kernel
theorem d_Model_walk_162 : decode prog_13_method_25_code 162 = .ok (.invokevirtual 129, 3) := by decide +kernel
theorem d_Model_walk_165 : decode prog_13_method_25_code 165 = .ok (.ifCond .eq 7, 3) := by decide +kernel
theorem d_Model_walk_168 : decode prog_13_method_25_code 168 = .ok (.iconst 3, 1) := by decide +kernel
theorem d_Model_walk_169 : decode prog_13_method_25_code 169 = .ok (.goto 4, 3) := by decide +kernel
theorem d_Model_walk_172 : decode prog_13_method_25_code 172 = .ok (.iconst 0, 1) := by decide +kernel
theorem d_Model_walk_173 : decode prog_13_method_25_code 173 = .ok (.istore 8, 2) := by decide +kernel
theorem d_Model_walk_175 : decode prog_13_method_25_code 175 = .ok (.iload 7, 2) := by decide +kernel
theorem d_Model_walk_177 : decode prog_13_method_25_code 177 = .ok (.ifCond .eq 38, 3) := by decide +kernel
theorem d_Model_walk_180 : decode prog_13_method_25_code 180 = .ok (.iload 8, 2) := by decide +kernel
theorem d_Model_walk_182 : decode prog_13_method_25_code 182 = .ok (.ifCond .le 33, 3) := by decide +kernel
theorem d_Model_walk_185 : decode prog_13_method_25_code 185 = .ok (.aload_n 0, 1) := by decide +kernel
theorem d_Model_walk_186 : decode prog_13_method_25_code 186 = .ok (.getfield 31, 3) := by decide +kernel
theorem d_Model_walk_189 : decode prog_13_method_25_code 189 = .ok (.aload_n 0, 1) := by decide +kernel
theorem d_Model_walk_190 : decode prog_13_method_25_code 190 = .ok (.getfield 126, 3) := by decide +kernel
theorem d_Model_walk_193 : decode prog_13_method_25_code 193 = .ok (.iload_n 2, 1) := by decide +kernel
theorem d_Model_walk_194 : decode prog_13_method_25_code 194 = .ok (.iastore, 1) := by decide +kernel
theorem d_Model_walk_195 : decode prog_13_method_25_code 195 = .ok (.aload_n 0, 1) := by decide +kernel
theorem d_Model_walk_196 : decode prog_13_method_25_code 196 = .ok (.getfield 34, 3) := by decide +kernel
theorem d_Model_walk_199 : decode prog_13_method_25_code 199 = .ok (.aload_n 0, 1) := by decide +kernel
theorem d_Model_walk_200 : decode prog_13_method_25_code 200 = .ok (.getfield 126, 3) := by decide +kernel
theorem d_Model_walk_203 : decode prog_13_method_25_code 203 = .ok (.iload_n 3, 1) := by decide +kernel
theorem d_Model_walk_204 : decode prog_13_method_25_code 204 = .ok (.iastore, 1) := by decide +kernel
theorem d_Model_walk_205 : decode prog_13_method_25_code 205 = .ok (.aload_n 0, 1) := by decide +kernel
theorem d_Model_walk_206 : decode prog_13_method_25_code 206 = .ok (.dup, 1) := by decide +kernel
theorem d_Model_walk_207 : decode prog_13_method_25_code 207 = .ok (.getfield 126, 3) := by decide +kernel
theorem d_Model_walk_210 : decode prog_13_method_25_code 210 = .ok (.iconst 1, 1) := by decide +kernel
theorem d_Model_walk_211 : decode prog_13_method_25_code 211 = .ok (.iadd, 1) := by decide +kernel
theorem d_Model_walk_212 : decode prog_13_method_25_code 212 = .ok (.putfield 126, 3) := by decide +kernel
theorem d_Model_walk_215 : decode prog_13_method_25_code 215 = .ok (.iload 6, 2) := by decide +kernel
theorem d_Model_walk_217 : decode prog_13_method_25_code 217 = .ok (.iload 8, 2) := by decide +kernel
theorem d_Model_walk_219 : decode prog_13_method_25_code 219 = .ok (.iadd, 1) := by decide +kernel
theorem d_Model_walk_220 : decode prog_13_method_25_code 220 = .ok (.iconst 4, 1) := by decide +kernel
theorem d_Model_walk_221 : decode prog_13_method_25_code 221 = .ok (.irem, 1) := by decide +kernel
theorem d_Model_walk_222 : decode prog_13_method_25_code 222 = .ok (.istore 6, 2) := by decide +kernel
theorem d_Model_walk_224 : decode prog_13_method_25_code 224 = .ok (.goto (-183), 3) := by decide +kernel
theorem d_Model_walk_227 : decode prog_13_method_25_code 227 = .ok (.return_, 1) := by decide +kernel
