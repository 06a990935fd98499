theorem d_Model_comesBefore_33 : decode prog_13_method_32_code 33 = .ok (.istore 5, 2) := by decide +kernel
theorem d_Model_comesBefore_35 : decode prog_13_method_32_code 35 = .ok (.aload_n 0, 1) := by decide +kernel
theorem d_Model_comesBefore_36 : decode prog_13_method_32_code 36 = .ok (.getfield 25, 3) := by decide +kernel
theorem d_Model_comesBefore_39 : decode prog_13_method_32_code 39 = .ok (.aload_n 0, 1) := by decide +kernel
theorem d_Model_comesBefore_40 : decode prog_13_method_32_code 40 = .ok (.getfield 22, 3) := by decide +kernel
theorem d_Model_comesBefore_43 : decode prog_13_method_32_code 43 = .ok (.iload_n 2, 1) := by decide +kernel
theorem d_Model_comesBefore_44 : decode prog_13_method_32_code 44 = .ok (.iaload, 1) := by decide +kernel
theorem d_Model_comesBefore_45 : decode prog_13_method_32_code 45 = .ok (.iaload, 1) := by decide +kernel
theorem d_Model_comesBefore_46 : decode prog_13_method_32_code 46 = .ok (.istore 6, 2) := by decide +kernel
theorem d_Model_comesBefore_48 : decode prog_13_method_32_code 48 = .ok (.iload 5, 2) := by decide +kernel
theorem d_Model_comesBefore_50 : decode prog_13_method_32_code 50 = .ok (.iload 6, 2) := by decide +kernel
theorem d_Model_comesBefore_52 : decode prog_13_method_32_code 52 = .ok (.if_icmp .eq 18, 3) := by decide +kernel
theorem d_Model_comesBefore_55 : decode prog_13_method_32_code 55 = .ok (.iload 5, 2) := by decide +kernel
theorem d_Model_comesBefore_57 : decode prog_13_method_32_code 57 = .ok (.iload 6, 2) := by decide +kernel
theorem d_Model_comesBefore_59 : decode prog_13_method_32_code 59 = .ok (.if_icmp .le 7, 3) := by decide +kernel
theorem d_Model_comesBefore_62 : decode prog_13_method_32_code 62 = .ok (.iconst 1, 1) := by decide +kernel
theorem d_Model_comesBefore_63 : decode prog_13_method_32_code 63 = .ok (.goto 17, 3) := by decide +kernel
theorem d_Model_comesBefore_66 : decode prog_13_method_32_code 66 = .ok (.iconst 0, 1) := by decide +kernel
theorem d_Model_comesBefore_67 : decode prog_13_method_32_code 67 = .ok (.goto 13, 3) := by decide +kernel
theorem d_Model_comesBefore_70 : decode prog_13_method_32_code 70 = .ok (.iload_n 1, 1) := by decide +kernel
theorem d_Model_comesBefore_71 : decode prog_13_method_32_code 71 = .ok (.iload_n 2, 1) := by decide +kernel
theorem d_Model_comesBefore_72 : decode prog_13_method_32_code 72 = .ok (.if_icmp .ge 7, 3) := by decide +kernel
theorem d_Model_comesBefore_75 : decode prog_13_method_32_code 75 = .ok (.iconst 1, 1) := by decide +kernel
theorem d_Model_comesBefore_76 : decode prog_13_method_32_code 76 = .ok (.goto 4, 3) := by decide +kernel
theorem d_Model_comesBefore_79 : decode prog_13_method_32_code 79 = .ok (.iconst 0, 1) := by decide +kernel
theorem d_Model_comesBefore_80 : decode prog_13_method_32_code 80 = .ok (.ireturn, 1) := by decide +kernel
theorem d_Model_common_0 : decode prog_13_method_38_code 0 = .ok (.iload_n 0, 1) := by decide +kernel
theorem d_Model_common_1 : decode prog_13_method_38_code 1 = .ok (.istore_n 2, 1) := by decide +kernel
theorem d_Model_common_2 : decode prog_13_method_38_code 2 = .ok (.iload_n 1, 1) := by decide +kernel
theorem d_Model_common_3 : decode prog_13_method_38_code 3 = .ok (.istore_n 3, 1) := by decide +kernel
theorem d_Model_common_4 : decode prog_13_method_38_code 4 = .ok (.iload_n 3, 1) := by decide +kernel
theorem d_Model_common_5 : decode prog_13_method_38_code 5 = .ok (.ifCond .eq 16, 3) := by decide +kernel
theorem d_Model_common_8 : decode prog_13_method_38_code 8 = .ok (.iload_n 2, 1) := by decide +kernel
theorem d_Model_common_9 : decode prog_13_method_38_code 9 = .ok (.iload_n 3, 1) := by decide +kernel
theorem d_Model_common_10 : decode prog_13_method_38_code 10 = .ok (.irem, 1) := by decide +kernel
theorem d_Model_common_11 : decode prog_13_method_38_code 11 = .ok (.istore 4, 2) := by decide +kernel
theorem d_Model_common_13 : decode prog_13_method_38_code 13 = .ok (.iload_n 3, 1) := by decide +kernel
theorem d_Model_common_14 : decode prog_13_method_38_code 14 = .ok (.istore_n 2, 1) := by decide +kernel
theorem d_Model_common_15 : decode prog_13_method_38_code 15 = .ok (.iload 4, 2) := by decide +kernel
theorem d_Model_common_17 : decode prog_13_method_38_code 17 = .ok (.istore_n 3, 1) := by decide +kernel
theorem d_Model_common_18 : decode prog_13_method_38_code 18 = .ok (.goto (-14), 3) := by decide +kernel
theorem d_Model_common_21 : decode prog_13_method_38_code 21 = .ok (.iload_n 2, 1) := by decide +kernel
theorem d_Model_common_22 : decode prog_13_method_38_code 22 = .ok (.ireturn, 1) := by decide +kernel
theorem d_Model_corner_0 : decode prog_13_method_27_code 0 = .ok (.aload_n 0, 1) := by decide +kernel
theorem d_Model_corner_1 : decode prog_13_method_27_code 1 = .ok (.iload_n 1, 1) := by decide +kernel
theorem d_Model_corner_2 : decode prog_13_method_27_code 2 = .ok (.invokevirtual 116, 3) := by decide +kernel
theorem d_Model_corner_5 : decode prog_13_method_27_code 5 = .ok (.ifCond .eq 5, 3) := by decide +kernel
theorem d_Model_corner_8 : decode prog_13_method_27_code 8 = .ok (.iconst 0, 1) := by decide +kernel
theorem d_Model_corner_9 : decode prog_13_method_27_code 9 = .ok (.ireturn, 1) := by decide +kernel
theorem d_Model_corner_10 : decode prog_13_method_27_code 10 = .ok (.aload_n 0, 1) := by decide +kernel
theorem d_Model_corner_11 : decode prog_13_method_27_code 11 = .ok (.iload_n 1, 1) := by decide +kernel
theorem d_Model_corner_12 : decode prog_13_method_27_code 12 = .ok (.invokevirtual 133, 3) := by decide +kernel
theorem d_Model_corner_15 : decode prog_13_method_27_code 15 = .ok (.aload_n 0, 1) := by decide +kernel
theorem d_Model_corner_16 : decode prog_13_method_27_code 16 = .ok (.iload_n 2, 1) := by decide +kernel
theorem d_Model_corner_17 : decode prog_13_method_27_code 17 = .ok (.ifCond .lt 20, 3) := by decide +kernel
theorem d_Model_corner_20 : decode prog_13_method_27_code 20 = .ok (.iload_n 2, 1) := by decide +kernel
theorem d_Model_corner_21 : decode prog_13_method_27_code 21 = .ok (.aload_n 0, 1) := by decide +kernel
theorem d_Model_corner_22 : decode prog_13_method_27_code 22 = .ok (.getfield 126, 3) := by decide +kernel
theorem d_Model_corner_25 : decode prog_13_method_27_code 25 = .ok (.if_icmp .ge 12, 3) := by decide +kernel
theorem d_Model_corner_28 : decode prog_13_method_27_code 28 = .ok (.iload_n 3, 1) := by decide +kernel
theorem d_Model_corner_29 : decode prog_13_method_27_code 29 = .ok (.ifCond .lt 8, 3) := by decide +kernel
theorem d_Model_corner_32 : decode prog_13_method_27_code 32 = .ok (.iload_n 3, 1) := by decide +kernel
theorem d_Model_corner_33 : decode prog_13_method_27_code 33 = .ok (.iconst 1, 1) := by decide +kernel
theorem d_Model_corner_34 : decode prog_13_method_27_code 34 = .ok (.if_icmp .le 7, 3) := by decide +kernel
theorem d_Model_corner_37 : decode prog_13_method_27_code 37 = .ok (.iconst 2, 1) := by decide +kernel
theorem d_Model_corner_38 : decode prog_13_method_27_code 38 = .ok (.goto 4, 3) := by decide +kernel
theorem d_Model_corner_41 : decode prog_13_method_27_code 41 = .ok (.iconst 0, 1) := by decide +kernel
theorem d_Model_corner_42 : decode prog_13_method_27_code 42 = .ok (.putfield 66, 3) := by decide +kernel
theorem d_Model_corner_45 : decode prog_13_method_27_code 45 = .ok (.aload_n 0, 1) := by decide +kernel
theorem d_Model_corner_46 : decode prog_13_method_27_code 46 = .ok (.getfield 66, 3) := by decide +kernel
theorem d_Model_corner_49 : decode prog_13_method_27_code 49 = .ok (.ifCond .le 7, 3) := by decide +kernel
theorem d_Model_corner_52 : decode prog_13_method_27_code 52 = .ok (.iconst 0, 1) := by decide +kernel
theorem d_Model_corner_53 : decode prog_13_method_27_code 53 = .ok (.goto 22, 3) := by decide +kernel
theorem d_Model_corner_56 : decode prog_13_method_27_code 56 = .ok (.iload_n 3, 1) := by decide +kernel
theorem d_Model_corner_57 : decode prog_13_method_27_code 57 = .ok (.ifCond .ne 12, 3) := by decide +kernel
theorem d_Model_corner_60 : decode prog_13_method_27_code 60 = .ok (.aload_n 0, 1) := by decide +kernel
theorem d_Model_corner_61 : decode prog_13_method_27_code 61 = .ok (.getfield 31, 3) := by decide +kernel
theorem d_Model_corner_64 : decode prog_13_method_27_code 64 = .ok (.iload_n 2, 1) := by decide +kernel
theorem d_Model_corner_65 : decode prog_13_method_27_code 65 = .ok (.iaload, 1) := by decide +kernel
theorem d_Model_corner_66 : decode prog_13_method_27_code 66 = .ok (.goto 9, 3) := by decide +kernel
theorem d_Model_corner_69 : decode prog_13_method_27_code 69 = .ok (.aload_n 0, 1) := by decide +kernel
theorem d_Model_corner_70 : decode prog_13_method_27_code 70 = .ok (.getfield 34, 3) := by decide +kernel
theorem d_Model_corner_73 : decode prog_13_method_27_code 73 = .ok (.iload_n 2, 1) := by decide +kernel
theorem d_Model_corner_74 : decode prog_13_method_27_code 74 = .ok (.iaload, 1) := by decide +kernel
theorem d_Model_corner_75 : decode prog_13_method_27_code 75 = .ok (.ireturn, 1) := by decide +kernel
theorem d_Model_end_0 : decode prog_13_method_19_code 0 = .ok (.iload_n 2, 1) := by decide +kernel
theorem d_Model_end_1 : decode prog_13_method_19_code 1 = .ok (.iconst 2, 1) := by decide +kernel
theorem d_Model_end_2 : decode prog_13_method_19_code 2 = .ok (.if_icmp .ge 8, 3) := by decide +kernel
theorem d_Model_end_5 : decode prog_13_method_19_code 5 = .ok (.bipush 100, 2) := by decide +kernel
theorem d_Model_end_7 : decode prog_13_method_19_code 7 = .ok (.goto 4, 3) := by decide +kernel
theorem d_Model_end_10 : decode prog_13_method_19_code 10 = .ok (.iconst (-1), 1) := by decide +kernel
theorem d_Model_end_11 : decode prog_13_method_19_code 11 = .ok (.istore_n 3, 1) := by decide +kernel
theorem d_Model_end_12 : decode prog_13_method_19_code 12 = .ok (.iconst 0, 1) := by decide +kernel
theorem d_Model_end_13 : decode prog_13_method_19_code 13 = .ok (.istore 4, 2) := by decide +kernel
theorem d_Model_end_15 : decode prog_13_method_19_code 15 = .ok (.iload 4, 2) := by decide +kernel
theorem d_Model_end_17 : decode prog_13_method_19_code 17 = .ok (.aload_n 0, 1) := by decide +kernel
theorem d_Model_end_18 : decode prog_13_method_19_code 18 = .ok (.getfield 56, 3) := by decide +kernel
theorem d_Model_end_21 : decode prog_13_method_19_code 21 = .ok (.aload_n 0, 1) := by decide +kernel
theorem d_Model_end_22 : decode prog_13_method_19_code 22 = .ok (.getfield 60, 3) := by decide +kernel
theorem d_Model_end_25 : decode prog_13_method_19_code 25 = .ok (.imul, 1) := by decide +kernel
theorem d_Model_end_26 : decode prog_13_method_19_code 26 = .ok (.if_icmp .ge 83, 3) := by decide +kernel
theorem d_Model_end_29 : decode prog_13_method_19_code 29 = .ok (.aload_n 0, 1) := by decide +kernel
theorem d_Model_end_30 : decode prog_13_method_19_code 30 = .ok (.getfield 19, 3) := by decide +kernel
theorem d_Model_end_33 : decode prog_13_method_19_code 33 = .ok (.iload 4, 2) := by decide +kernel
theorem d_Model_end_35 : decode prog_13_method_19_code 35 = .ok (.iaload, 1) := by decide +kernel
theorem d_Model_end_36 : decode prog_13_method_19_code 36 = .ok (.aload_n 0, 1) := by decide +kernel
theorem d_Model_end_37 : decode prog_13_method_19_code 37 = .ok (.getfield 22, 3) := by decide +kernel
theorem d_Model_end_40 : decode prog_13_method_19_code 40 = .ok (.iload_n 1, 1) := by decide +kernel
theorem d_Model_end_41 : decode prog_13_method_19_code 41 = .ok (.iaload, 1) := by decide +kernel
theorem d_Model_end_42 : decode prog_13_method_19_code 42 = .ok (.if_icmp .ne 61, 3) := by decide +kernel
theorem d_Model_end_45 : decode prog_13_method_19_code 45 = .ok (.iload_n 2, 1) := by decide +kernel
theorem d_Model_end_46 : decode prog_13_method_19_code 46 = .ok (.iconst 2, 1) := by decide +kernel
theorem d_Model_end_47 : decode prog_13_method_19_code 47 = .ok (.irem, 1) := by decide +kernel
theorem d_Model_end_48 : decode prog_13_method_19_code 48 = .ok (.ifCond .ne 13, 3) := by decide +kernel
theorem d_Model_end_51 : decode prog_13_method_19_code 51 = .ok (.iload 4, 2) := by decide +kernel
theorem d_Model_end_53 : decode prog_13_method_19_code 53 = .ok (.aload_n 0, 1) := by decide +kernel
theorem d_Model_end_54 : decode prog_13_method_19_code 54 = .ok (.getfield 56, 3) := by decide +kernel
theorem d_Model_end_57 : decode prog_13_method_19_code 57 = .ok (.irem, 1) := by decide +kernel
theorem d_Model_end_58 : decode prog_13_method_19_code 58 = .ok (.goto 10, 3) := by decide +kernel
theorem d_Model_end_61 : decode prog_13_method_19_code 61 = .ok (.iload 4, 2) := by decide +kernel
theorem d_Model_end_63 : decode prog_13_method_19_code 63 = .ok (.aload_n 0, 1) := by decide +kernel
theorem d_Model_end_64 : decode prog_13_method_19_code 64 = .ok (.getfield 56, 3) := by decide +kernel
theorem d_Model_end_67 : decode prog_13_method_19_code 67 = .ok (.idiv, 1) := by decide +kernel
theorem d_Model_end_68 : decode prog_13_method_19_code 68 = .ok (.istore 5, 2) := by decide +kernel
theorem d_Model_end_70 : decode prog_13_method_19_code 70 = .ok (.iload_n 2, 1) := by decide +kernel
theorem d_Model_end_71 : decode prog_13_method_19_code 71 = .ok (.iconst 2, 1) := by decide +kernel
theorem d_Model_end_72 : decode prog_13_method_19_code 72 = .ok (.if_icmp .ge 18, 3) := by decide +kernel
theorem d_Model_end_75 : decode prog_13_method_19_code 75 = .ok (.iload 5, 2) := by decide +kernel
theorem d_Model_end_77 : decode prog_13_method_19_code 77 = .ok (.iload_n 3, 1) := by decide +kernel
theorem d_Model_end_78 : decode prog_13_method_19_code 78 = .ok (.if_icmp .ge 8, 3) := by decide +kernel
theorem d_Model_end_81 : decode prog_13_method_19_code 81 = .ok (.iload 5, 2) := by decide +kernel
theorem d_Model_end_83 : decode prog_13_method_19_code 83 = .ok (.goto 19, 3) := by decide +kernel
theorem d_Model_end_86 : decode prog_13_method_19_code 86 = .ok (.iload_n 3, 1) := by decide +kernel
theorem d_Model_end_87 : decode prog_13_method_19_code 87 = .ok (.goto 15, 3) := by decide +kernel
theorem d_Model_end_90 : decode prog_13_method_19_code 90 = .ok (.iload 5, 2) := by decide +kernel
theorem d_Model_end_92 : decode prog_13_method_19_code 92 = .ok (.iload_n 3, 1) := by decide +kernel
theorem d_Model_end_93 : decode prog_13_method_19_code 93 = .ok (.if_icmp .le 8, 3) := by decide +kernel
theorem d_Model_end_96 : decode prog_13_method_19_code 96 = .ok (.iload 5, 2) := by decide +kernel
theorem d_Model_end_98 : decode prog_13_method_19_code 98 = .ok (.goto 4, 3) := by decide +kernel
theorem d_Model_end_101 : decode prog_13_method_19_code 101 = .ok (.iload_n 3, 1) := by decide +kernel
theorem d_Model_end_102 : decode prog_13_method_19_code 102 = .ok (.istore_n 3, 1) := by decide +kernel
theorem d_Model_end_103 : decode prog_13_method_19_code 103 = .ok (.iinc 4 1, 3) := by decide +kernel
theorem d_Model_end_106 : decode prog_13_method_19_code 106 = .ok (.goto (-91), 3) := by decide +kernel
theorem d_Model_end_109 : decode prog_13_method_19_code 109 = .ok (.iload_n 3, 1) := by decide +kernel
theorem d_Model_end_110 : decode prog_13_method_19_code 110 = .ok (.ireturn, 1) := by decide +kernel
theorem d_Model_isAtEdge_0 : decode prog_13_method_20_code 0 = .ok (.aload_n 0, 1) := by decide +kernel
theorem d_Model_isAtEdge_1 : decode prog_13_method_20_code 1 = .ok (.iload_n 1, 1) := by decide +kernel
theorem d_Model_isAtEdge_2 : decode prog_13_method_20_code 2 = .ok (.iconst 0, 1) := by decide +kernel
theorem d_Model_isAtEdge_3 : decode prog_13_method_20_code 3 = .ok (.invokevirtual 113, 3) := by decide +kernel
theorem d_Model_isAtEdge_6 : decode prog_13_method_20_code 6 = .ok (.ifCond .eq 42, 3) := by decide +kernel
theorem d_Model_isAtEdge_9 : decode prog_13_method_20_code 9 = .ok (.aload_n 0, 1) := by decide +kernel
theorem d_Model_isAtEdge_10 : decode prog_13_method_20_code 10 = .ok (.iload_n 1, 1) := by decide +kernel
theorem d_Model_isAtEdge_11 : decode prog_13_method_20_code 11 = .ok (.iconst 1, 1) := by decide +kernel
theorem d_Model_isAtEdge_12 : decode prog_13_method_20_code 12 = .ok (.invokevirtual 113, 3) := by decide +kernel
theorem d_Model_isAtEdge_15 : decode prog_13_method_20_code 15 = .ok (.ifCond .eq 33, 3) := by decide +kernel
theorem d_Model_isAtEdge_18 : decode prog_13_method_20_code 18 = .ok (.aload_n 0, 1) := by decide +kernel
theorem d_Model_isAtEdge_19 : decode prog_13_method_20_code 19 = .ok (.iload_n 1, 1) := by decide +kernel
theorem d_Model_isAtEdge_20 : decode prog_13_method_20_code 20 = .ok (.iconst 2, 1) := by decide +kernel
theorem d_Model_isAtEdge_21 : decode prog_13_method_20_code 21 = .ok (.invokevirtual 113, 3) := by decide +kernel
theorem d_Model_isAtEdge_24 : decode prog_13_method_20_code 24 = .ok (.aload_n 0, 1) := by decide +kernel
theorem d_Model_isAtEdge_25 : decode prog_13_method_20_code 25 = .ok (.getfield 56, 3) := by decide +kernel
theorem d_Model_isAtEdge_28 : decode prog_13_method_20_code 28 = .ok (.iconst 1, 1) := by decide +kernel
theorem d_Model_isAtEdge_29 : decode prog_13_method_20_code 29 = .ok (.isub, 1) := by decide +kernel
theorem d_Model_isAtEdge_30 : decode prog_13_method_20_code 30 = .ok (.if_icmp .eq 18, 3) := by decide +kernel
theorem d_Model_isAtEdge_33 : decode prog_13_method_20_code 33 = .ok (.aload_n 0, 1) := by decide +kernel
theorem d_Model_isAtEdge_34 : decode prog_13_method_20_code 34 = .ok (.iload_n 1, 1) := by decide +kernel
theorem d_Model_isAtEdge_35 : decode prog_13_method_20_code 35 = .ok (.iconst 3, 1) := by decide +kernel
theorem d_Model_isAtEdge_36 : decode prog_13_method_20_code 36 = .ok (.invokevirtual 113, 3) := by decide +kernel
theorem d_Model_isAtEdge_39 : decode prog_13_method_20_code 39 = .ok (.aload_n 0, 1) := by decide +kernel
theorem d_Model_isAtEdge_40 : decode prog_13_method_20_code 40 = .ok (.getfield 60, 3) := by decide +kernel
theorem d_Model_isAtEdge_43 : decode prog_13_method_20_code 43 = .ok (.iconst 1, 1) := by decide +kernel
theorem d_Model_isAtEdge_44 : decode prog_13_method_20_code 44 = .ok (.isub, 1) := by decide +kernel
theorem d_Model_isAtEdge_45 : decode prog_13_method_20_code 45 = .ok (.if_icmp .ne 7, 3) := by decide +kernel
theorem d_Model_isAtEdge_48 : decode prog_13_method_20_code 48 = .ok (.iconst 1, 1) := by decide +kernel
theorem d_Model_isAtEdge_49 : decode prog_13_method_20_code 49 = .ok (.goto 4, 3) := by decide +kernel
theorem d_Model_isAtEdge_52 : decode prog_13_method_20_code 52 = .ok (.iconst 0, 1) := by decide +kernel
theorem d_Model_isAtEdge_53 : decode prog_13_method_20_code 53 = .ok (.ireturn, 1) := by decide +kernel
theorem d_Model_isColour_0 : decode prog_13_method_4_code 0 = .ok (.iload_n 0, 1) := by decide +kernel
theorem d_Model_isColour_1 : decode prog_13_method_4_code 1 = .ok (.ifCond .lt 14, 3) := by decide +kernel
theorem d_Model_isColour_4 : decode prog_13_method_4_code 4 = .ok (.iload_n 0, 1) := by decide +kernel
theorem d_Model_isColour_5 : decode prog_13_method_4_code 5 = .ok (.sipush 255, 3) := by decide +kernel
theorem d_Model_isColour_8 : decode prog_13_method_4_code 8 = .ok (.if_icmp .gt 7, 3) := by decide +kernel
theorem d_Model_isColour_11 : decode prog_13_method_4_code 11 = .ok (.iconst 1, 1) := by decide +kernel
theorem d_Model_isColour_12 : decode prog_13_method_4_code 12 = .ok (.goto 4, 3) := by decide +kernel
theorem d_Model_isColour_15 : decode prog_13_method_4_code 15 = .ok (.iconst 0, 1) := by decide +kernel
theorem d_Model_isColour_16 : decode prog_13_method_4_code 16 = .ok (.ireturn, 1) := by decide +kernel
theorem d_Model_isLaidBefore_0 : decode prog_13_method_34_code 0 = .ok (.aload_n 0, 1) := by decide +kernel
theorem d_Model_isLaidBefore_1 : decode prog_13_method_34_code 1 = .ok (.iload_n 1, 1) := by decide +kernel
theorem d_Model_isLaidBefore_2 : decode prog_13_method_34_code 2 = .ok (.iconst 3, 1) := by decide +kernel
theorem d_Model_isLaidBefore_3 : decode prog_13_method_34_code 3 = .ok (.invokevirtual 113, 3) := by decide +kernel
theorem d_Model_isLaidBefore_6 : decode prog_13_method_34_code 6 = .ok (.aload_n 0, 1) := by decide +kernel
theorem d_Model_isLaidBefore_7 : decode prog_13_method_34_code 7 = .ok (.iload_n 1, 1) := by decide +kernel
theorem d_Model_isLaidBefore_8 : decode prog_13_method_34_code 8 = .ok (.iconst 1, 1) := by decide +kernel
theorem d_Model_isLaidBefore_9 : decode prog_13_method_34_code 9 = .ok (.invokevirtual 113, 3) := by decide +kernel
theorem d_Model_isLaidBefore_12 : decode prog_13_method_34_code 12 = .ok (.isub, 1) := by decide +kernel
theorem d_Model_isLaidBefore_13 : decode prog_13_method_34_code 13 = .ok (.istore_n 3, 1) := by decide +kernel
theorem d_Model_isLaidBefore_14 : decode prog_13_method_34_code 14 = .ok (.aload_n 0, 1) := by decide +kernel
theorem d_Model_isLaidBefore_15 : decode prog_13_method_34_code 15 = .ok (.iload_n 2, 1) := by decide +kernel
theorem d_Model_isLaidBefore_16 : decode prog_13_method_34_code 16 = .ok (.iconst 3, 1) := by decide +kernel
theorem d_Model_isLaidBefore_17 : decode prog_13_method_34_code 17 = .ok (.invokevirtual 113, 3) := by decide +kernel
theorem d_Model_isLaidBefore_20 : decode prog_13_method_34_code 20 = .ok (.aload_n 0, 1) := by decide +kernel
theorem d_Model_isLaidBefore_21 : decode prog_13_method_34_code 21 = .ok (.iload_n 2, 1) := by decide +kernel
theorem d_Model_isLaidBefore_22 : decode prog_13_method_34_code 22 = .ok (.iconst 1, 1) := by decide +kernel
theorem d_Model_isLaidBefore_23 : decode prog_13_method_34_code 23 = .ok (.invokevirtual 113, 3) := by decide +kernel
theorem d_Model_isLaidBefore_26 : decode prog_13_method_34_code 26 = .ok (.isub, 1) := by decide +kernel
theorem d_Model_isLaidBefore_27 : decode prog_13_method_34_code 27 = .ok (.istore 4, 2) := by decide +kernel
theorem d_Model_isLaidBefore_29 : decode prog_13_method_34_code 29 = .ok (.aload_n 0, 1) := by decide +kernel
theorem d_Model_isLaidBefore_30 : decode prog_13_method_34_code 30 = .ok (.iload_n 1, 1) := by decide +kernel
theorem d_Model_isLaidBefore_31 : decode prog_13_method_34_code 31 = .ok (.iconst 2, 1) := by decide +kernel
theorem d_Model_isLaidBefore_32 : decode prog_13_method_34_code 32 = .ok (.invokevirtual 113, 3) := by decide +kernel
theorem d_Model_isLaidBefore_35 : decode prog_13_method_34_code 35 = .ok (.aload_n 0, 1) := by decide +kernel
theorem d_Model_isLaidBefore_36 : decode prog_13_method_34_code 36 = .ok (.iload_n 1, 1) := by decide +kernel
theorem d_Model_isLaidBefore_37 : decode prog_13_method_34_code 37 = .ok (.iconst 0, 1) := by decide +kernel
theorem d_Model_isLaidBefore_38 : decode prog_13_method_34_code 38 = .ok (.invokevirtual 113, 3) := by decide +kernel
theorem d_Model_isLaidBefore_41 : decode prog_13_method_34_code 41 = .ok (.isub, 1) := by decide +kernel
theorem d_Model_isLaidBefore_42 : decode prog_13_method_34_code 42 = .ok (.istore 5, 2) := by decide +kernel
theorem d_Model_isLaidBefore_44 : decode prog_13_method_34_code 44 = .ok (.aload_n 0, 1) := by decide +kernel
theorem d_Model_isLaidBefore_45 : decode prog_13_method_34_code 45 = .ok (.iload_n 2, 1) := by decide +kernel
theorem d_Model_isLaidBefore_46 : decode prog_13_method_34_code 46 = .ok (.iconst 2, 1) := by decide +kernel
theorem d_Model_isLaidBefore_47 : decode prog_13_method_34_code 47 = .ok (.invokevirtual 113, 3) := by decide +kernel
theorem d_Model_isLaidBefore_50 : decode prog_13_method_34_code 50 = .ok (.aload_n 0, 1) := by decide +kernel
theorem d_Model_isLaidBefore_51 : decode prog_13_method_34_code 51 = .ok (.iload_n 2, 1) := by decide +kernel
theorem d_Model_isLaidBefore_52 : decode prog_13_method_34_code 52 = .ok (.iconst 0, 1) := by decide +kernel
theorem d_Model_isLaidBefore_53 : decode prog_13_method_34_code 53 = .ok (.invokevirtual 113, 3) := by decide +kernel
theorem d_Model_isLaidBefore_56 : decode prog_13_method_34_code 56 = .ok (.isub, 1) := by decide +kernel
theorem d_Model_isLaidBefore_57 : decode prog_13_method_34_code 57 = .ok (.istore 6, 2) := by decide +kernel
theorem d_Model_isLaidBefore_59 : decode prog_13_method_34_code 59 = .ok (.iload_n 3, 1) := by decide +kernel
theorem d_Model_isLaidBefore_60 : decode prog_13_method_34_code 60 = .ok (.iload 4, 2) := by decide +kernel
theorem d_Model_isLaidBefore_62 : decode prog_13_method_34_code 62 = .ok (.if_icmp .eq 17, 3) := by decide +kernel
theorem d_Model_isLaidBefore_65 : decode prog_13_method_34_code 65 = .ok (.iload_n 3, 1) := by decide +kernel
theorem d_Model_isLaidBefore_66 : decode prog_13_method_34_code 66 = .ok (.iload 4, 2) := by decide +kernel
theorem d_Model_isLaidBefore_68 : decode prog_13_method_34_code 68 = .ok (.if_icmp .le 7, 3) := by decide +kernel
theorem d_Model_isLaidBefore_71 : decode prog_13_method_34_code 71 = .ok (.iconst 1, 1) := by decide +kernel
theorem d_Model_isLaidBefore_72 : decode prog_13_method_34_code 72 = .ok (.goto 39, 3) := by decide +kernel
theorem d_Model_isLaidBefore_75 : decode prog_13_method_34_code 75 = .ok (.iconst 0, 1) := by decide +kernel
theorem d_Model_isLaidBefore_76 : decode prog_13_method_34_code 76 = .ok (.goto 35, 3) := by decide +kernel
theorem d_Model_isLaidBefore_79 : decode prog_13_method_34_code 79 = .ok (.iload 5, 2) := by decide +kernel
theorem d_Model_isLaidBefore_81 : decode prog_13_method_34_code 81 = .ok (.iload 6, 2) := by decide +kernel
theorem d_Model_isLaidBefore_83 : decode prog_13_method_34_code 83 = .ok (.if_icmp .eq 18, 3) := by decide +kernel
theorem d_Model_isLaidBefore_86 : decode prog_13_method_34_code 86 = .ok (.iload 5, 2) := by decide +kernel
theorem d_Model_isLaidBefore_88 : decode prog_13_method_34_code 88 = .ok (.iload 6, 2) := by decide +kernel
theorem d_Model_isLaidBefore_90 : decode prog_13_method_34_code 90 = .ok (.if_icmp .le 7, 3) := by decide +kernel
theorem d_Model_isLaidBefore_93 : decode prog_13_method_34_code 93 = .ok (.iconst 1, 1) := by decide +kernel
theorem d_Model_isLaidBefore_94 : decode prog_13_method_34_code 94 = .ok (.goto 17, 3) := by decide +kernel
theorem d_Model_isLaidBefore_97 : decode prog_13_method_34_code 97 = .ok (.iconst 0, 1) := by decide +kernel
theorem d_Model_isLaidBefore_98 : decode prog_13_method_34_code 98 = .ok (.goto 13, 3) := by decide +kernel
theorem d_Model_isLaidBefore_101 : decode prog_13_method_34_code 101 = .ok (.iload_n 1, 1) := by decide +kernel
theorem d_Model_isLaidBefore_102 : decode prog_13_method_34_code 102 = .ok (.iload_n 2, 1) := by decide +kernel
theorem d_Model_isLaidBefore_103 : decode prog_13_method_34_code 103 = .ok (.if_icmp .ge 7, 3) := by decide +kernel
theorem d_Model_isLaidBefore_106 : decode prog_13_method_34_code 106 = .ok (.iconst 1, 1) := by decide +kernel
theorem d_Model_isLaidBefore_107 : decode prog_13_method_34_code 107 = .ok (.goto 4, 3) := by decide +kernel
theorem d_Model_isLaidBefore_110 : decode prog_13_method_34_code 110 = .ok (.iconst 0, 1) := by decide +kernel
theorem d_Model_isLaidBefore_111 : decode prog_13_method_34_code 111 = .ok (.ireturn, 1) := by decide +kernel
theorem d_Model_isOf_0 : decode prog_13_method_23_code 0 = .ok (.aload_n 0, 1) := by decide +kernel
theorem d_Model_isOf_1 : decode prog_13_method_23_code 1 = .ok (.iload_n 2, 1) := by decide +kernel
theorem d_Model_isOf_2 : decode prog_13_method_23_code 2 = .ok (.iload_n 3, 1) := by decide +kernel
theorem d_Model_isOf_3 : decode prog_13_method_23_code 3 = .ok (.invokevirtual 69, 3) := by decide +kernel
theorem d_Model_isOf_6 : decode prog_13_method_23_code 6 = .ok (.ifCond .eq 29, 3) := by decide +kernel
theorem d_Model_isOf_9 : decode prog_13_method_23_code 9 = .ok (.aload_n 0, 1) := by decide +kernel
theorem d_Model_isOf_10 : decode prog_13_method_23_code 10 = .ok (.getfield 19, 3) := by decide +kernel
theorem d_Model_isOf_13 : decode prog_13_method_23_code 13 = .ok (.aload_n 0, 1) := by decide +kernel
theorem d_Model_isOf_14 : decode prog_13_method_23_code 14 = .ok (.getfield 56, 3) := by decide +kernel
theorem d_Model_isOf_17 : decode prog_13_method_23_code 17 = .ok (.iload_n 3, 1) := by decide +kernel
theorem d_Model_isOf_18 : decode prog_13_method_23_code 18 = .ok (.imul, 1) := by decide +kernel
theorem d_Model_isOf_19 : decode prog_13_method_23_code 19 = .ok (.iload_n 2, 1) := by decide +kernel
theorem d_Model_isOf_20 : decode prog_13_method_23_code 20 = .ok (.iadd, 1) := by decide +kernel
theorem d_Model_isOf_21 : decode prog_13_method_23_code 21 = .ok (.iaload, 1) := by decide +kernel
theorem d_Model_isOf_22 : decode prog_13_method_23_code 22 = .ok (.aload_n 0, 1) := by decide +kernel
theorem d_Model_isOf_23 : decode prog_13_method_23_code 23 = .ok (.getfield 22, 3) := by decide +kernel
theorem d_Model_isOf_26 : decode prog_13_method_23_code 26 = .ok (.iload_n 1, 1) := by decide +kernel
theorem d_Model_isOf_27 : decode prog_13_method_23_code 27 = .ok (.iaload, 1) := by decide +kernel
theorem d_Model_isOf_28 : decode prog_13_method_23_code 28 = .ok (.if_icmp .ne 7, 3) := by decide +kernel
theorem d_Model_isOf_31 : decode prog_13_method_23_code 31 = .ok (.iconst 1, 1) := by decide +kernel
theorem d_Model_isOf_32 : decode prog_13_method_23_code 32 = .ok (.goto 4, 3) := by decide +kernel
theorem d_Model_isOf_35 : decode prog_13_method_23_code 35 = .ok (.iconst 0, 1) := by decide +kernel
theorem d_Model_isOf_36 : decode prog_13_method_23_code 36 = .ok (.ireturn, 1) := by decide +kernel
theorem d_Model_isPlace_0 : decode prog_13_method_5_code 0 = .ok (.iload_n 1, 1) := by decide +kernel
theorem d_Model_isPlace_1 : decode prog_13_method_5_code 1 = .ok (.ifCond .lt 27, 3) := by decide +kernel
theorem d_Model_isPlace_4 : decode prog_13_method_5_code 4 = .ok (.iload_n 1, 1) := by decide +kernel
theorem d_Model_isPlace_5 : decode prog_13_method_5_code 5 = .ok (.aload_n 0, 1) := by decide +kernel
theorem d_Model_isPlace_6 : decode prog_13_method_5_code 6 = .ok (.getfield 56, 3) := by decide +kernel
theorem d_Model_isPlace_9 : decode prog_13_method_5_code 9 = .ok (.if_icmp .ge 19, 3) := by decide +kernel
theorem d_Model_isPlace_12 : decode prog_13_method_5_code 12 = .ok (.iload_n 2, 1) := by decide +kernel
theorem d_Model_isPlace_13 : decode prog_13_method_5_code 13 = .ok (.ifCond .lt 15, 3) := by decide +kernel
theorem d_Model_isPlace_16 : decode prog_13_method_5_code 16 = .ok (.iload_n 2, 1) := by decide +kernel
theorem d_Model_isPlace_17 : decode prog_13_method_5_code 17 = .ok (.aload_n 0, 1) := by decide +kernel
theorem d_Model_isPlace_18 : decode prog_13_method_5_code 18 = .ok (.getfield 60, 3) := by decide +kernel
theorem d_Model_isPlace_21 : decode prog_13_method_5_code 21 = .ok (.if_icmp .ge 7, 3) := by decide +kernel
theorem d_Model_isPlace_24 : decode prog_13_method_5_code 24 = .ok (.iconst 1, 1) := by decide +kernel
theorem d_Model_isPlace_25 : decode prog_13_method_5_code 25 = .ok (.goto 4, 3) := by decide +kernel
theorem d_Model_isPlace_28 : decode prog_13_method_5_code 28 = .ok (.iconst 0, 1) := by decide +kernel
theorem d_Model_isPlace_29 : decode prog_13_method_5_code 29 = .ok (.ireturn, 1) := by decide +kernel
theorem d_Model_isReached_0 : decode prog_13_method_29_code 0 = .ok (.iconst 0, 1) := by decide +kernel
theorem d_Model_isReached_1 : decode prog_13_method_29_code 1 = .ok (.istore 5, 2) := by decide +kernel
theorem d_Model_isReached_3 : decode prog_13_method_29_code 3 = .ok (.iload_n 2, 1) := by decide +kernel
theorem d_Model_isReached_4 : decode prog_13_method_29_code 4 = .ok (.iload 4, 2) := by decide +kernel
theorem d_Model_isReached_6 : decode prog_13_method_29_code 6 = .ok (.isub, 1) := by decide +kernel
theorem d_Model_isReached_7 : decode prog_13_method_29_code 7 = .ok (.istore 6, 2) := by decide +kernel
theorem d_Model_isReached_9 : decode prog_13_method_29_code 9 = .ok (.iload 6, 2) := by decide +kernel
theorem d_Model_isReached_11 : decode prog_13_method_29_code 11 = .ok (.iload_n 2, 1) := by decide +kernel
