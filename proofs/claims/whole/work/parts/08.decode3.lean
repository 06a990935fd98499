theorem d_Pieces_gatherAll_30 : decode prog_7_method_4_code 30 = .ok (.iload_n 1, 1) := by decide +kernel
theorem d_Pieces_gatherAll_31 : decode prog_7_method_4_code 31 = .ok (.iaload, 1) := by decide +kernel
theorem d_Pieces_gatherAll_32 : decode prog_7_method_4_code 32 = .ok (.iconst (-1), 1) := by decide +kernel
theorem d_Pieces_gatherAll_33 : decode prog_7_method_4_code 33 = .ok (.if_icmp .ne 22, 3) := by decide +kernel
theorem d_Pieces_gatherAll_36 : decode prog_7_method_4_code 36 = .ok (.aload_n 0, 1) := by decide +kernel
theorem d_Pieces_gatherAll_37 : decode prog_7_method_4_code 37 = .ok (.iload_n 1, 1) := by decide +kernel
theorem d_Pieces_gatherAll_38 : decode prog_7_method_4_code 38 = .ok (.aload_n 0, 1) := by decide +kernel
theorem d_Pieces_gatherAll_39 : decode prog_7_method_4_code 39 = .ok (.getfield 49, 3) := by decide +kernel
theorem d_Pieces_gatherAll_42 : decode prog_7_method_4_code 42 = .ok (.invokevirtual 75, 3) := by decide +kernel
theorem d_Pieces_gatherAll_45 : decode prog_7_method_4_code 45 = .ok (.aload_n 0, 1) := by decide +kernel
theorem d_Pieces_gatherAll_46 : decode prog_7_method_4_code 46 = .ok (.dup, 1) := by decide +kernel
theorem d_Pieces_gatherAll_47 : decode prog_7_method_4_code 47 = .ok (.getfield 49, 3) := by decide +kernel
theorem d_Pieces_gatherAll_50 : decode prog_7_method_4_code 50 = .ok (.iconst 1, 1) := by decide +kernel
theorem d_Pieces_gatherAll_51 : decode prog_7_method_4_code 51 = .ok (.iadd, 1) := by decide +kernel
theorem d_Pieces_gatherAll_52 : decode prog_7_method_4_code 52 = .ok (.putfield 49, 3) := by decide +kernel
theorem d_Pieces_gatherAll_55 : decode prog_7_method_4_code 55 = .ok (.iinc 1 1, 3) := by decide +kernel
theorem d_Pieces_gatherAll_58 : decode prog_7_method_4_code 58 = .ok (.goto (-43), 3) := by decide +kernel
theorem d_Pieces_gatherAll_61 : decode prog_7_method_4_code 61 = .ok (.return_, 1) := by decide +kernel
theorem d_Pieces_include_0 : decode prog_7_method_7_code 0 = .ok (.aload_n 0, 1) := by decide +kernel
theorem d_Pieces_include_1 : decode prog_7_method_7_code 1 = .ok (.getfield 37, 3) := by decide +kernel
theorem d_Pieces_include_4 : decode prog_7_method_7_code 4 = .ok (.iload_n 2, 1) := by decide +kernel
theorem d_Pieces_include_5 : decode prog_7_method_7_code 5 = .ok (.dup2, 1) := by decide +kernel
theorem d_Pieces_include_6 : decode prog_7_method_7_code 6 = .ok (.iaload, 1) := by decide +kernel
theorem d_Pieces_include_7 : decode prog_7_method_7_code 7 = .ok (.iconst 1, 1) := by decide +kernel
theorem d_Pieces_include_8 : decode prog_7_method_7_code 8 = .ok (.iadd, 1) := by decide +kernel
theorem d_Pieces_include_9 : decode prog_7_method_7_code 9 = .ok (.iastore, 1) := by decide +kernel
theorem d_Pieces_include_10 : decode prog_7_method_7_code 10 = .ok (.aload_n 0, 1) := by decide +kernel
theorem d_Pieces_include_11 : decode prog_7_method_7_code 11 = .ok (.getfield 40, 3) := by decide +kernel
theorem d_Pieces_include_14 : decode prog_7_method_7_code 14 = .ok (.iload_n 2, 1) := by decide +kernel
theorem d_Pieces_include_15 : decode prog_7_method_7_code 15 = .ok (.aload_n 0, 1) := by decide +kernel
theorem d_Pieces_include_16 : decode prog_7_method_7_code 16 = .ok (.getfield 40, 3) := by decide +kernel
theorem d_Pieces_include_19 : decode prog_7_method_7_code 19 = .ok (.iload_n 2, 1) := by decide +kernel
theorem d_Pieces_include_20 : decode prog_7_method_7_code 20 = .ok (.iaload, 1) := by decide +kernel
theorem d_Pieces_include_21 : decode prog_7_method_7_code 21 = .ok (.aload_n 0, 1) := by decide +kernel
theorem d_Pieces_include_22 : decode prog_7_method_7_code 22 = .ok (.getfield 9, 3) := by decide +kernel
theorem d_Pieces_include_25 : decode prog_7_method_7_code 25 = .ok (.iload_n 1, 1) := by decide +kernel
theorem d_Pieces_include_26 : decode prog_7_method_7_code 26 = .ok (.invokevirtual 89, 3) := by decide +kernel
theorem d_Pieces_include_29 : decode prog_7_method_7_code 29 = .ok (.invokestatic 96, 3) := by decide +kernel
theorem d_Pieces_include_32 : decode prog_7_method_7_code 32 = .ok (.iastore, 1) := by decide +kernel
theorem d_Pieces_include_33 : decode prog_7_method_7_code 33 = .ok (.aload_n 0, 1) := by decide +kernel
theorem d_Pieces_include_34 : decode prog_7_method_7_code 34 = .ok (.getfield 43, 3) := by decide +kernel
theorem d_Pieces_include_37 : decode prog_7_method_7_code 37 = .ok (.iload_n 2, 1) := by decide +kernel
theorem d_Pieces_include_38 : decode prog_7_method_7_code 38 = .ok (.aload_n 0, 1) := by decide +kernel
theorem d_Pieces_include_39 : decode prog_7_method_7_code 39 = .ok (.getfield 43, 3) := by decide +kernel
theorem d_Pieces_include_42 : decode prog_7_method_7_code 42 = .ok (.iload_n 2, 1) := by decide +kernel
theorem d_Pieces_include_43 : decode prog_7_method_7_code 43 = .ok (.iaload, 1) := by decide +kernel
theorem d_Pieces_include_44 : decode prog_7_method_7_code 44 = .ok (.aload_n 0, 1) := by decide +kernel
theorem d_Pieces_include_45 : decode prog_7_method_7_code 45 = .ok (.getfield 9, 3) := by decide +kernel
theorem d_Pieces_include_48 : decode prog_7_method_7_code 48 = .ok (.iload_n 1, 1) := by decide +kernel
theorem d_Pieces_include_49 : decode prog_7_method_7_code 49 = .ok (.invokevirtual 89, 3) := by decide +kernel
theorem d_Pieces_include_52 : decode prog_7_method_7_code 52 = .ok (.invokestatic 101, 3) := by decide +kernel
theorem d_Pieces_include_55 : decode prog_7_method_7_code 55 = .ok (.iastore, 1) := by decide +kernel
theorem d_Pieces_include_56 : decode prog_7_method_7_code 56 = .ok (.aload_n 0, 1) := by decide +kernel
theorem d_Pieces_include_57 : decode prog_7_method_7_code 57 = .ok (.getfield 46, 3) := by decide +kernel
theorem d_Pieces_include_60 : decode prog_7_method_7_code 60 = .ok (.iload_n 2, 1) := by decide +kernel
theorem d_Pieces_include_61 : decode prog_7_method_7_code 61 = .ok (.aload_n 0, 1) := by decide +kernel
theorem d_Pieces_include_62 : decode prog_7_method_7_code 62 = .ok (.getfield 46, 3) := by decide +kernel
theorem d_Pieces_include_65 : decode prog_7_method_7_code 65 = .ok (.iload_n 2, 1) := by decide +kernel
theorem d_Pieces_include_66 : decode prog_7_method_7_code 66 = .ok (.iaload, 1) := by decide +kernel
theorem d_Pieces_include_67 : decode prog_7_method_7_code 67 = .ok (.aload_n 0, 1) := by decide +kernel
theorem d_Pieces_include_68 : decode prog_7_method_7_code 68 = .ok (.getfield 9, 3) := by decide +kernel
theorem d_Pieces_include_71 : decode prog_7_method_7_code 71 = .ok (.iload_n 1, 1) := by decide +kernel
theorem d_Pieces_include_72 : decode prog_7_method_7_code 72 = .ok (.invokevirtual 93, 3) := by decide +kernel
theorem d_Pieces_include_75 : decode prog_7_method_7_code 75 = .ok (.invokestatic 101, 3) := by decide +kernel
theorem d_Pieces_include_78 : decode prog_7_method_7_code 78 = .ok (.iastore, 1) := by decide +kernel
theorem d_Pieces_include_79 : decode prog_7_method_7_code 79 = .ok (.return_, 1) := by decide +kernel
theorem d_Pieces_isAtEdge_0 : decode prog_7_method_22_code 0 = .ok (.aload_n 0, 1) := by decide +kernel
theorem d_Pieces_isAtEdge_1 : decode prog_7_method_22_code 1 = .ok (.getfield 40, 3) := by decide +kernel
theorem d_Pieces_isAtEdge_4 : decode prog_7_method_22_code 4 = .ok (.iload_n 1, 1) := by decide +kernel
theorem d_Pieces_isAtEdge_5 : decode prog_7_method_22_code 5 = .ok (.iaload, 1) := by decide +kernel
theorem d_Pieces_isAtEdge_6 : decode prog_7_method_22_code 6 = .ok (.ifCond .eq 47, 3) := by decide +kernel
theorem d_Pieces_isAtEdge_9 : decode prog_7_method_22_code 9 = .ok (.aload_n 0, 1) := by decide +kernel
theorem d_Pieces_isAtEdge_10 : decode prog_7_method_22_code 10 = .ok (.getfield 43, 3) := by decide +kernel
theorem d_Pieces_isAtEdge_13 : decode prog_7_method_22_code 13 = .ok (.iload_n 1, 1) := by decide +kernel
theorem d_Pieces_isAtEdge_14 : decode prog_7_method_22_code 14 = .ok (.iaload, 1) := by decide +kernel
theorem d_Pieces_isAtEdge_15 : decode prog_7_method_22_code 15 = .ok (.aload_n 0, 1) := by decide +kernel
theorem d_Pieces_isAtEdge_16 : decode prog_7_method_22_code 16 = .ok (.getfield 9, 3) := by decide +kernel
theorem d_Pieces_isAtEdge_19 : decode prog_7_method_22_code 19 = .ok (.getfield 127, 3) := by decide +kernel
theorem d_Pieces_isAtEdge_22 : decode prog_7_method_22_code 22 = .ok (.iconst 1, 1) := by decide +kernel
theorem d_Pieces_isAtEdge_23 : decode prog_7_method_22_code 23 = .ok (.isub, 1) := by decide +kernel
theorem d_Pieces_isAtEdge_24 : decode prog_7_method_22_code 24 = .ok (.if_icmp .eq 29, 3) := by decide +kernel
theorem d_Pieces_isAtEdge_27 : decode prog_7_method_22_code 27 = .ok (.aload_n 0, 1) := by decide +kernel
theorem d_Pieces_isAtEdge_28 : decode prog_7_method_22_code 28 = .ok (.iload_n 1, 1) := by decide +kernel
theorem d_Pieces_isAtEdge_29 : decode prog_7_method_22_code 29 = .ok (.invokevirtual 124, 3) := by decide +kernel
theorem d_Pieces_isAtEdge_32 : decode prog_7_method_22_code 32 = .ok (.ifCond .eq 21, 3) := by decide +kernel
theorem d_Pieces_isAtEdge_35 : decode prog_7_method_22_code 35 = .ok (.aload_n 0, 1) := by decide +kernel
theorem d_Pieces_isAtEdge_36 : decode prog_7_method_22_code 36 = .ok (.getfield 46, 3) := by decide +kernel
theorem d_Pieces_isAtEdge_39 : decode prog_7_method_22_code 39 = .ok (.iload_n 1, 1) := by decide +kernel
theorem d_Pieces_isAtEdge_40 : decode prog_7_method_22_code 40 = .ok (.iaload, 1) := by decide +kernel
theorem d_Pieces_isAtEdge_41 : decode prog_7_method_22_code 41 = .ok (.aload_n 0, 1) := by decide +kernel
theorem d_Pieces_isAtEdge_42 : decode prog_7_method_22_code 42 = .ok (.getfield 9, 3) := by decide +kernel
theorem d_Pieces_isAtEdge_45 : decode prog_7_method_22_code 45 = .ok (.getfield 130, 3) := by decide +kernel
theorem d_Pieces_isAtEdge_48 : decode prog_7_method_22_code 48 = .ok (.iconst 1, 1) := by decide +kernel
theorem d_Pieces_isAtEdge_49 : decode prog_7_method_22_code 49 = .ok (.isub, 1) := by decide +kernel
theorem d_Pieces_isAtEdge_50 : decode prog_7_method_22_code 50 = .ok (.if_icmp .ne 7, 3) := by decide +kernel
theorem d_Pieces_isAtEdge_53 : decode prog_7_method_22_code 53 = .ok (.iconst 1, 1) := by decide +kernel
theorem d_Pieces_isAtEdge_54 : decode prog_7_method_22_code 54 = .ok (.goto 4, 3) := by decide +kernel
theorem d_Pieces_isAtEdge_57 : decode prog_7_method_22_code 57 = .ok (.iconst 0, 1) := by decide +kernel
theorem d_Pieces_isAtEdge_58 : decode prog_7_method_22_code 58 = .ok (.ireturn, 1) := by decide +kernel
theorem d_Pieces_joinSmallest_0 : decode prog_7_method_8_code 0 = .ok (.aload_n 0, 1) := by decide +kernel
theorem d_Pieces_joinSmallest_1 : decode prog_7_method_8_code 1 = .ok (.invokevirtual 104, 3) := by decide +kernel
theorem d_Pieces_joinSmallest_4 : decode prog_7_method_8_code 4 = .ok (.istore_n 2, 1) := by decide +kernel
theorem d_Pieces_joinSmallest_5 : decode prog_7_method_8_code 5 = .ok (.aload_n 0, 1) := by decide +kernel
theorem d_Pieces_joinSmallest_6 : decode prog_7_method_8_code 6 = .ok (.getfield 49, 3) := by decide +kernel
theorem d_Pieces_joinSmallest_9 : decode prog_7_method_8_code 9 = .ok (.iconst 2, 1) := by decide +kernel
theorem d_Pieces_joinSmallest_10 : decode prog_7_method_8_code 10 = .ok (.if_icmp .lt 13, 3) := by decide +kernel
theorem d_Pieces_joinSmallest_13 : decode prog_7_method_8_code 13 = .ok (.aload_n 0, 1) := by decide +kernel
theorem d_Pieces_joinSmallest_14 : decode prog_7_method_8_code 14 = .ok (.getfield 37, 3) := by decide +kernel
theorem d_Pieces_joinSmallest_17 : decode prog_7_method_8_code 17 = .ok (.iload_n 2, 1) := by decide +kernel
theorem d_Pieces_joinSmallest_18 : decode prog_7_method_8_code 18 = .ok (.iaload, 1) := by decide +kernel
theorem d_Pieces_joinSmallest_19 : decode prog_7_method_8_code 19 = .ok (.iload_n 1, 1) := by decide +kernel
theorem d_Pieces_joinSmallest_20 : decode prog_7_method_8_code 20 = .ok (.if_icmp .lt 5, 3) := by decide +kernel
theorem d_Pieces_joinSmallest_23 : decode prog_7_method_8_code 23 = .ok (.iconst 0, 1) := by decide +kernel
theorem d_Pieces_joinSmallest_24 : decode prog_7_method_8_code 24 = .ok (.ireturn, 1) := by decide +kernel
theorem d_Pieces_joinSmallest_25 : decode prog_7_method_8_code 25 = .ok (.aload_n 0, 1) := by decide +kernel
theorem d_Pieces_joinSmallest_26 : decode prog_7_method_8_code 26 = .ok (.aload_n 0, 1) := by decide +kernel
theorem d_Pieces_joinSmallest_27 : decode prog_7_method_8_code 27 = .ok (.iload_n 2, 1) := by decide +kernel
theorem d_Pieces_joinSmallest_28 : decode prog_7_method_8_code 28 = .ok (.invokevirtual 108, 3) := by decide +kernel
theorem d_Pieces_joinSmallest_31 : decode prog_7_method_8_code 31 = .ok (.invokevirtual 111, 3) := by decide +kernel
theorem d_Pieces_joinSmallest_34 : decode prog_7_method_8_code 34 = .ok (.istore_n 3, 1) := by decide +kernel
theorem d_Pieces_joinSmallest_35 : decode prog_7_method_8_code 35 = .ok (.iconst 0, 1) := by decide +kernel
theorem d_Pieces_joinSmallest_36 : decode prog_7_method_8_code 36 = .ok (.istore 4, 2) := by decide +kernel
theorem d_Pieces_joinSmallest_38 : decode prog_7_method_8_code 38 = .ok (.iload 4, 2) := by decide +kernel
theorem d_Pieces_joinSmallest_40 : decode prog_7_method_8_code 40 = .ok (.aload_n 0, 1) := by decide +kernel
theorem d_Pieces_joinSmallest_41 : decode prog_7_method_8_code 41 = .ok (.getfield 9, 3) := by decide +kernel
theorem d_Pieces_joinSmallest_44 : decode prog_7_method_8_code 44 = .ok (.getfield 15, 3) := by decide +kernel
theorem d_Pieces_joinSmallest_47 : decode prog_7_method_8_code 47 = .ok (.if_icmp .ge 28, 3) := by decide +kernel
theorem d_Pieces_joinSmallest_50 : decode prog_7_method_8_code 50 = .ok (.aload_n 0, 1) := by decide +kernel
theorem d_Pieces_joinSmallest_51 : decode prog_7_method_8_code 51 = .ok (.getfield 25, 3) := by decide +kernel
theorem d_Pieces_joinSmallest_54 : decode prog_7_method_8_code 54 = .ok (.iload 4, 2) := by decide +kernel
theorem d_Pieces_joinSmallest_56 : decode prog_7_method_8_code 56 = .ok (.iaload, 1) := by decide +kernel
theorem d_Pieces_joinSmallest_57 : decode prog_7_method_8_code 57 = .ok (.iload_n 2, 1) := by decide +kernel
theorem d_Pieces_joinSmallest_58 : decode prog_7_method_8_code 58 = .ok (.if_icmp .ne 11, 3) := by decide +kernel
theorem d_Pieces_joinSmallest_61 : decode prog_7_method_8_code 61 = .ok (.aload_n 0, 1) := by decide +kernel
theorem d_Pieces_joinSmallest_62 : decode prog_7_method_8_code 62 = .ok (.getfield 21, 3) := by decide +kernel
theorem d_Pieces_joinSmallest_65 : decode prog_7_method_8_code 65 = .ok (.iload 4, 2) := by decide +kernel
theorem d_Pieces_joinSmallest_67 : decode prog_7_method_8_code 67 = .ok (.iload_n 3, 1) := by decide +kernel
theorem d_Pieces_joinSmallest_68 : decode prog_7_method_8_code 68 = .ok (.iastore, 1) := by decide +kernel
theorem d_Pieces_joinSmallest_69 : decode prog_7_method_8_code 69 = .ok (.iinc 4 1, 3) := by decide +kernel
theorem d_Pieces_joinSmallest_72 : decode prog_7_method_8_code 72 = .ok (.goto (-34), 3) := by decide +kernel
theorem d_Pieces_joinSmallest_75 : decode prog_7_method_8_code 75 = .ok (.iconst 1, 1) := by decide +kernel
theorem d_Pieces_joinSmallest_76 : decode prog_7_method_8_code 76 = .ok (.ireturn, 1) := by decide +kernel
theorem d_Pieces_leastXOf_0 : decode prog_7_method_18_code 0 = .ok (.aload_n 0, 1) := by decide +kernel
theorem d_Pieces_leastXOf_1 : decode prog_7_method_18_code 1 = .ok (.getfield 40, 3) := by decide +kernel
theorem d_Pieces_leastXOf_4 : decode prog_7_method_18_code 4 = .ok (.iload_n 1, 1) := by decide +kernel
theorem d_Pieces_leastXOf_5 : decode prog_7_method_18_code 5 = .ok (.iaload, 1) := by decide +kernel
theorem d_Pieces_leastXOf_6 : decode prog_7_method_18_code 6 = .ok (.ireturn, 1) := by decide +kernel
theorem d_Pieces_leastYOf_0 : decode prog_7_method_19_code 0 = .ok (.aload_n 0, 1) := by decide +kernel
theorem d_Pieces_leastYOf_1 : decode prog_7_method_19_code 1 = .ok (.getfield 9, 3) := by decide +kernel
theorem d_Pieces_leastYOf_4 : decode prog_7_method_19_code 4 = .ok (.aload_n 0, 1) := by decide +kernel
theorem d_Pieces_leastYOf_5 : decode prog_7_method_19_code 5 = .ok (.getfield 34, 3) := by decide +kernel
theorem d_Pieces_leastYOf_8 : decode prog_7_method_19_code 8 = .ok (.iload_n 1, 1) := by decide +kernel
theorem d_Pieces_leastYOf_9 : decode prog_7_method_19_code 9 = .ok (.iaload, 1) := by decide +kernel
theorem d_Pieces_leastYOf_10 : decode prog_7_method_19_code 10 = .ok (.invokevirtual 93, 3) := by decide +kernel
theorem d_Pieces_leastYOf_13 : decode prog_7_method_19_code 13 = .ok (.ireturn, 1) := by decide +kernel
theorem d_Pieces_make_0 : decode prog_7_method_2_code 0 = .ok (.iconst 0, 1) := by decide +kernel
theorem d_Pieces_make_1 : decode prog_7_method_2_code 1 = .ok (.istore 5, 2) := by decide +kernel
theorem d_Pieces_make_3 : decode prog_7_method_2_code 3 = .ok (.iload 5, 2) := by decide +kernel
theorem d_Pieces_make_5 : decode prog_7_method_2_code 5 = .ok (.aload_n 0, 1) := by decide +kernel
theorem d_Pieces_make_6 : decode prog_7_method_2_code 6 = .ok (.getfield 9, 3) := by decide +kernel
theorem d_Pieces_make_9 : decode prog_7_method_2_code 9 = .ok (.getfield 15, 3) := by decide +kernel
theorem d_Pieces_make_12 : decode prog_7_method_2_code 12 = .ok (.if_icmp .ge 24, 3) := by decide +kernel
theorem d_Pieces_make_15 : decode prog_7_method_2_code 15 = .ok (.aload_n 0, 1) := by decide +kernel
theorem d_Pieces_make_16 : decode prog_7_method_2_code 16 = .ok (.getfield 21, 3) := by decide +kernel
theorem d_Pieces_make_19 : decode prog_7_method_2_code 19 = .ok (.iload 5, 2) := by decide +kernel
theorem d_Pieces_make_21 : decode prog_7_method_2_code 21 = .ok (.aload_n 1, 1) := by decide +kernel
theorem d_Pieces_make_22 : decode prog_7_method_2_code 22 = .ok (.iload 5, 2) := by decide +kernel
theorem d_Pieces_make_24 : decode prog_7_method_2_code 24 = .ok (.aload_n 2, 1) := by decide +kernel
theorem d_Pieces_make_25 : decode prog_7_method_2_code 25 = .ok (.iload_n 3, 1) := by decide +kernel
theorem d_Pieces_make_26 : decode prog_7_method_2_code 26 = .ok (.invokestatic 52, 3) := by decide +kernel
theorem d_Pieces_make_29 : decode prog_7_method_2_code 29 = .ok (.iastore, 1) := by decide +kernel
theorem d_Pieces_make_30 : decode prog_7_method_2_code 30 = .ok (.iinc 5 1, 3) := by decide +kernel
theorem d_Pieces_make_33 : decode prog_7_method_2_code 33 = .ok (.goto (-30), 3) := by decide +kernel
theorem d_Pieces_make_36 : decode prog_7_method_2_code 36 = .ok (.aload_n 0, 1) := by decide +kernel
theorem d_Pieces_make_37 : decode prog_7_method_2_code 37 = .ok (.invokevirtual 56, 3) := by decide +kernel
theorem d_Pieces_make_40 : decode prog_7_method_2_code 40 = .ok (.iconst 0, 1) := by decide +kernel
theorem d_Pieces_make_41 : decode prog_7_method_2_code 41 = .ok (.istore 5, 2) := by decide +kernel
theorem d_Pieces_make_43 : decode prog_7_method_2_code 43 = .ok (.iload 5, 2) := by decide +kernel
theorem d_Pieces_make_45 : decode prog_7_method_2_code 45 = .ok (.aload_n 0, 1) := by decide +kernel
theorem d_Pieces_make_46 : decode prog_7_method_2_code 46 = .ok (.getfield 9, 3) := by decide +kernel
theorem d_Pieces_make_49 : decode prog_7_method_2_code 49 = .ok (.getfield 15, 3) := by decide +kernel
theorem d_Pieces_make_52 : decode prog_7_method_2_code 52 = .ok (.if_icmp .ge 22, 3) := by decide +kernel
theorem d_Pieces_make_55 : decode prog_7_method_2_code 55 = .ok (.aload_n 0, 1) := by decide +kernel
theorem d_Pieces_make_56 : decode prog_7_method_2_code 56 = .ok (.iload 4, 2) := by decide +kernel
theorem d_Pieces_make_58 : decode prog_7_method_2_code 58 = .ok (.invokevirtual 59, 3) := by decide +kernel
theorem d_Pieces_make_61 : decode prog_7_method_2_code 61 = .ok (.ifCond .eq 13, 3) := by decide +kernel
theorem d_Pieces_make_64 : decode prog_7_method_2_code 64 = .ok (.aload_n 0, 1) := by decide +kernel
theorem d_Pieces_make_65 : decode prog_7_method_2_code 65 = .ok (.invokevirtual 56, 3) := by decide +kernel
theorem d_Pieces_make_68 : decode prog_7_method_2_code 68 = .ok (.iinc 5 1, 3) := by decide +kernel
theorem d_Pieces_make_71 : decode prog_7_method_2_code 71 = .ok (.goto (-28), 3) := by decide +kernel
theorem d_Pieces_make_74 : decode prog_7_method_2_code 74 = .ok (.return_, 1) := by decide +kernel
theorem d_Pieces_nearestWood_0 : decode prog_7_method_3_code 0 = .ok (.iconst 0, 1) := by decide +kernel
theorem d_Pieces_nearestWood_1 : decode prog_7_method_3_code 1 = .ok (.istore 4, 2) := by decide +kernel
theorem d_Pieces_nearestWood_3 : decode prog_7_method_3_code 3 = .ok (.aload_n 0, 1) := by decide +kernel
theorem d_Pieces_nearestWood_4 : decode prog_7_method_3_code 4 = .ok (.iload_n 1, 1) := by decide +kernel
theorem d_Pieces_nearestWood_5 : decode prog_7_method_3_code 5 = .ok (.aload_n 2, 1) := by decide +kernel
theorem d_Pieces_nearestWood_6 : decode prog_7_method_3_code 6 = .ok (.iconst 0, 1) := by decide +kernel
theorem d_Pieces_nearestWood_7 : decode prog_7_method_3_code 7 = .ok (.invokevirtual 63, 3) := by decide +kernel
theorem d_Pieces_nearestWood_10 : decode prog_7_method_3_code 10 = .ok (.istore 5, 2) := by decide +kernel
theorem d_Pieces_nearestWood_12 : decode prog_7_method_3_code 12 = .ok (.iconst 1, 1) := by decide +kernel
theorem d_Pieces_nearestWood_13 : decode prog_7_method_3_code 13 = .ok (.istore 6, 2) := by decide +kernel
theorem d_Pieces_nearestWood_15 : decode prog_7_method_3_code 15 = .ok (.iload 6, 2) := by decide +kernel
theorem d_Pieces_nearestWood_17 : decode prog_7_method_3_code 17 = .ok (.iload_n 3, 1) := by decide +kernel
theorem d_Pieces_nearestWood_18 : decode prog_7_method_3_code 18 = .ok (.if_icmp .ge 34, 3) := by decide +kernel
theorem d_Pieces_nearestWood_21 : decode prog_7_method_3_code 21 = .ok (.aload_n 0, 1) := by decide +kernel
theorem d_Pieces_nearestWood_22 : decode prog_7_method_3_code 22 = .ok (.iload_n 1, 1) := by decide +kernel
theorem d_Pieces_nearestWood_23 : decode prog_7_method_3_code 23 = .ok (.aload_n 2, 1) := by decide +kernel
theorem d_Pieces_nearestWood_24 : decode prog_7_method_3_code 24 = .ok (.iload 6, 2) := by decide +kernel
theorem d_Pieces_nearestWood_26 : decode prog_7_method_3_code 26 = .ok (.invokevirtual 63, 3) := by decide +kernel
theorem d_Pieces_nearestWood_29 : decode prog_7_method_3_code 29 = .ok (.istore 7, 2) := by decide +kernel
theorem d_Pieces_nearestWood_31 : decode prog_7_method_3_code 31 = .ok (.iload 7, 2) := by decide +kernel
theorem d_Pieces_nearestWood_33 : decode prog_7_method_3_code 33 = .ok (.iload 5, 2) := by decide +kernel
theorem d_Pieces_nearestWood_35 : decode prog_7_method_3_code 35 = .ok (.if_icmp .ge 11, 3) := by decide +kernel
theorem d_Pieces_nearestWood_38 : decode prog_7_method_3_code 38 = .ok (.iload 6, 2) := by decide +kernel
theorem d_Pieces_nearestWood_40 : decode prog_7_method_3_code 40 = .ok (.istore 4, 2) := by decide +kernel
theorem d_Pieces_nearestWood_42 : decode prog_7_method_3_code 42 = .ok (.iload 7, 2) := by decide +kernel
theorem d_Pieces_nearestWood_44 : decode prog_7_method_3_code 44 = .ok (.istore 5, 2) := by decide +kernel
theorem d_Pieces_nearestWood_46 : decode prog_7_method_3_code 46 = .ok (.iinc 6 1, 3) := by decide +kernel
theorem d_Pieces_nearestWood_49 : decode prog_7_method_3_code 49 = .ok (.goto (-34), 3) := by decide +kernel
theorem d_Pieces_nearestWood_52 : decode prog_7_method_3_code 52 = .ok (.iload 4, 2) := by decide +kernel
theorem d_Pieces_nearestWood_54 : decode prog_7_method_3_code 54 = .ok (.ireturn, 1) := by decide +kernel
theorem d_Pieces_numberOf_0 : decode prog_7_method_14_code 0 = .ok (.aload_n 0, 1) := by decide +kernel
theorem d_Pieces_numberOf_1 : decode prog_7_method_14_code 1 = .ok (.getfield 9, 3) := by decide +kernel
theorem d_Pieces_numberOf_4 : decode prog_7_method_14_code 4 = .ok (.iload_n 1, 1) := by decide +kernel
theorem d_Pieces_numberOf_5 : decode prog_7_method_14_code 5 = .ok (.iload_n 2, 1) := by decide +kernel
theorem d_Pieces_numberOf_6 : decode prog_7_method_14_code 6 = .ok (.invokevirtual 121, 3) := by decide +kernel
theorem d_Pieces_numberOf_9 : decode prog_7_method_14_code 9 = .ok (.istore_n 3, 1) := by decide +kernel
theorem d_Pieces_numberOf_10 : decode prog_7_method_14_code 10 = .ok (.iload_n 3, 1) := by decide +kernel
theorem d_Pieces_numberOf_11 : decode prog_7_method_14_code 11 = .ok (.iconst (-1), 1) := by decide +kernel
theorem d_Pieces_numberOf_12 : decode prog_7_method_14_code 12 = .ok (.if_icmp .ne 7, 3) := by decide +kernel
theorem d_Pieces_numberOf_15 : decode prog_7_method_14_code 15 = .ok (.iconst (-1), 1) := by decide +kernel
theorem d_Pieces_numberOf_16 : decode prog_7_method_14_code 16 = .ok (.goto 9, 3) := by decide +kernel
theorem d_Pieces_numberOf_19 : decode prog_7_method_14_code 19 = .ok (.aload_n 0, 1) := by decide +kernel
theorem d_Pieces_numberOf_20 : decode prog_7_method_14_code 20 = .ok (.getfield 25, 3) := by decide +kernel
theorem d_Pieces_numberOf_23 : decode prog_7_method_14_code 23 = .ok (.iload_n 3, 1) := by decide +kernel
theorem d_Pieces_numberOf_24 : decode prog_7_method_14_code 24 = .ok (.iaload, 1) := by decide +kernel
theorem d_Pieces_numberOf_25 : decode prog_7_method_14_code 25 = .ok (.ireturn, 1) := by decide +kernel
theorem d_Pieces_rowsOf_0 : decode prog_7_method_21_code 0 = .ok (.aload_n 0, 1) := by decide +kernel
theorem d_Pieces_rowsOf_1 : decode prog_7_method_21_code 1 = .ok (.getfield 46, 3) := by decide +kernel
theorem d_Pieces_rowsOf_4 : decode prog_7_method_21_code 4 = .ok (.iload_n 1, 1) := by decide +kernel
theorem d_Pieces_rowsOf_5 : decode prog_7_method_21_code 5 = .ok (.iaload, 1) := by decide +kernel
theorem d_Pieces_rowsOf_6 : decode prog_7_method_21_code 6 = .ok (.aload_n 0, 1) := by decide +kernel
theorem d_Pieces_rowsOf_7 : decode prog_7_method_21_code 7 = .ok (.iload_n 1, 1) := by decide +kernel
theorem d_Pieces_rowsOf_8 : decode prog_7_method_21_code 8 = .ok (.invokevirtual 124, 3) := by decide +kernel
theorem d_Pieces_rowsOf_11 : decode prog_7_method_21_code 11 = .ok (.isub, 1) := by decide +kernel
theorem d_Pieces_rowsOf_12 : decode prog_7_method_21_code 12 = .ok (.iconst 1, 1) := by decide +kernel
theorem d_Pieces_rowsOf_13 : decode prog_7_method_21_code 13 = .ok (.iadd, 1) := by decide +kernel
theorem d_Pieces_rowsOf_14 : decode prog_7_method_21_code 14 = .ok (.ireturn, 1) := by decide +kernel
theorem d_Pieces_sidesBetween_0 : decode prog_7_method_13_code 0 = .ok (.aload_n 0, 1) := by decide +kernel
theorem d_Pieces_sidesBetween_1 : decode prog_7_method_13_code 1 = .ok (.iload_n 1, 1) := by decide +kernel
theorem d_Pieces_sidesBetween_2 : decode prog_7_method_13_code 2 = .ok (.invokevirtual 114, 3) := by decide +kernel
theorem d_Pieces_sidesBetween_5 : decode prog_7_method_13_code 5 = .ok (.aload_n 0, 1) := by decide +kernel
theorem d_Pieces_sidesBetween_6 : decode prog_7_method_13_code 6 = .ok (.getfield 31, 3) := by decide +kernel
theorem d_Pieces_sidesBetween_9 : decode prog_7_method_13_code 9 = .ok (.iload_n 2, 1) := by decide +kernel
theorem d_Pieces_sidesBetween_10 : decode prog_7_method_13_code 10 = .ok (.iaload, 1) := by decide +kernel
theorem d_Pieces_sidesBetween_11 : decode prog_7_method_13_code 11 = .ok (.ireturn, 1) := by decide +kernel
theorem d_Pieces_sizeOf_0 : decode prog_7_method_16_code 0 = .ok (.aload_n 0, 1) := by decide +kernel
theorem d_Pieces_sizeOf_1 : decode prog_7_method_16_code 1 = .ok (.getfield 37, 3) := by decide +kernel
theorem d_Pieces_sizeOf_4 : decode prog_7_method_16_code 4 = .ok (.iload_n 1, 1) := by decide +kernel
theorem d_Pieces_sizeOf_5 : decode prog_7_method_16_code 5 = .ok (.iaload, 1) := by decide +kernel
theorem d_Pieces_sizeOf_6 : decode prog_7_method_16_code 6 = .ok (.ireturn, 1) := by decide +kernel
theorem d_Pieces_smallest_0 : decode prog_7_method_9_code 0 = .ok (.iconst 0, 1) := by decide +kernel
theorem d_Pieces_smallest_1 : decode prog_7_method_9_code 1 = .ok (.istore_n 1, 1) := by decide +kernel
theorem d_Pieces_smallest_2 : decode prog_7_method_9_code 2 = .ok (.iconst 1, 1) := by decide +kernel
theorem d_Pieces_smallest_3 : decode prog_7_method_9_code 3 = .ok (.istore_n 2, 1) := by decide +kernel
theorem d_Pieces_smallest_4 : decode prog_7_method_9_code 4 = .ok (.iload_n 2, 1) := by decide +kernel
theorem d_Pieces_smallest_5 : decode prog_7_method_9_code 5 = .ok (.aload_n 0, 1) := by decide +kernel
theorem d_Pieces_smallest_6 : decode prog_7_method_9_code 6 = .ok (.getfield 49, 3) := by decide +kernel
theorem d_Pieces_smallest_9 : decode prog_7_method_9_code 9 = .ok (.if_icmp .ge 26, 3) := by decide +kernel
theorem d_Pieces_smallest_12 : decode prog_7_method_9_code 12 = .ok (.aload_n 0, 1) := by decide +kernel
theorem d_Pieces_smallest_13 : decode prog_7_method_9_code 13 = .ok (.getfield 37, 3) := by decide +kernel
theorem d_Pieces_smallest_16 : decode prog_7_method_9_code 16 = .ok (.iload_n 2, 1) := by decide +kernel
theorem d_Pieces_smallest_17 : decode prog_7_method_9_code 17 = .ok (.iaload, 1) := by decide +kernel
theorem d_Pieces_smallest_18 : decode prog_7_method_9_code 18 = .ok (.aload_n 0, 1) := by decide +kernel
theorem d_Pieces_smallest_19 : decode prog_7_method_9_code 19 = .ok (.getfield 37, 3) := by decide +kernel
theorem d_Pieces_smallest_22 : decode prog_7_method_9_code 22 = .ok (.iload_n 1, 1) := by decide +kernel
theorem d_Pieces_smallest_23 : decode prog_7_method_9_code 23 = .ok (.iaload, 1) := by decide +kernel
theorem d_Pieces_smallest_24 : decode prog_7_method_9_code 24 = .ok (.if_icmp .ge 5, 3) := by decide +kernel
theorem d_Pieces_smallest_27 : decode prog_7_method_9_code 27 = .ok (.iload_n 2, 1) := by decide +kernel
theorem d_Pieces_smallest_28 : decode prog_7_method_9_code 28 = .ok (.istore_n 1, 1) := by decide +kernel
theorem d_Pieces_smallest_29 : decode prog_7_method_9_code 29 = .ok (.iinc 2 1, 3) := by decide +kernel
theorem d_Pieces_smallest_32 : decode prog_7_method_9_code 32 = .ok (.goto (-28), 3) := by decide +kernel
theorem d_Pieces_smallest_35 : decode prog_7_method_9_code 35 = .ok (.iload_n 1, 1) := by decide +kernel
theorem d_Pieces_smallest_36 : decode prog_7_method_9_code 36 = .ok (.ireturn, 1) := by decide +kernel
theorem d_Pieces_woodOf_0 : decode prog_7_method_15_code 0 = .ok (.aload_n 0, 1) := by decide +kernel
theorem d_Pieces_woodOf_1 : decode prog_7_method_15_code 1 = .ok (.getfield 21, 3) := by decide +kernel
theorem d_Pieces_woodOf_4 : decode prog_7_method_15_code 4 = .ok (.aload_n 0, 1) := by decide +kernel
theorem d_Pieces_woodOf_5 : decode prog_7_method_15_code 5 = .ok (.getfield 34, 3) := by decide +kernel
theorem d_Pieces_woodOf_8 : decode prog_7_method_15_code 8 = .ok (.iload_n 1, 1) := by decide +kernel
theorem d_Pieces_woodOf_9 : decode prog_7_method_15_code 9 = .ok (.iaload, 1) := by decide +kernel
theorem d_Pieces_woodOf_10 : decode prog_7_method_15_code 10 = .ok (.iaload, 1) := by decide +kernel
theorem d_Pieces_woodOf_11 : decode prog_7_method_15_code 11 = .ok (.ireturn, 1) := by decide +kernel
theorem d_Ranking_rank_0 : decode prog_8_method_3_code 0 = .ok (.iconst 0, 1) := by decide +kernel
theorem d_Ranking_rank_1 : decode prog_8_method_3_code 1 = .ok (.istore_n 2, 1) := by decide +kernel
theorem d_Ranking_rank_2 : decode prog_8_method_3_code 2 = .ok (.iload_n 2, 1) := by decide +kernel
theorem d_Ranking_rank_3 : decode prog_8_method_3_code 3 = .ok (.iload_n 1, 1) := by decide +kernel
theorem d_Ranking_rank_4 : decode prog_8_method_3_code 4 = .ok (.if_icmp .ge 67, 3) := by decide +kernel
theorem d_Ranking_rank_7 : decode prog_8_method_3_code 7 = .ok (.iload_n 2, 1) := by decide +kernel
theorem d_Ranking_rank_8 : decode prog_8_method_3_code 8 = .ok (.aload_n 0, 1) := by decide +kernel
theorem d_Ranking_rank_9 : decode prog_8_method_3_code 9 = .ok (.getfield 7, 3) := by decide +kernel
