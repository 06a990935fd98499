theorem d_Tool_fits_4 : decode prog_10_method_3_code 4 = .ok (.istore 5, 2) := by decide +kernel
theorem d_Tool_fits_6 : decode prog_10_method_3_code 6 = .ok (.iload 5, 2) := by decide +kernel
theorem d_Tool_fits_8 : decode prog_10_method_3_code 8 = .ok (.iload_n 3, 1) := by decide +kernel
theorem d_Tool_fits_9 : decode prog_10_method_3_code 9 = .ok (.iload 4, 2) := by decide +kernel
theorem d_Tool_fits_11 : decode prog_10_method_3_code 11 = .ok (.iadd, 1) := by decide +kernel
theorem d_Tool_fits_12 : decode prog_10_method_3_code 12 = .ok (.if_icmp .gt 47, 3) := by decide +kernel
theorem d_Tool_fits_15 : decode prog_10_method_3_code 15 = .ok (.iload_n 2, 1) := by decide +kernel
theorem d_Tool_fits_16 : decode prog_10_method_3_code 16 = .ok (.iload 4, 2) := by decide +kernel
theorem d_Tool_fits_18 : decode prog_10_method_3_code 18 = .ok (.isub, 1) := by decide +kernel
theorem d_Tool_fits_19 : decode prog_10_method_3_code 19 = .ok (.istore 6, 2) := by decide +kernel
theorem d_Tool_fits_21 : decode prog_10_method_3_code 21 = .ok (.iload 6, 2) := by decide +kernel
theorem d_Tool_fits_23 : decode prog_10_method_3_code 23 = .ok (.iload_n 2, 1) := by decide +kernel
theorem d_Tool_fits_24 : decode prog_10_method_3_code 24 = .ok (.iload 4, 2) := by decide +kernel
theorem d_Tool_fits_26 : decode prog_10_method_3_code 26 = .ok (.iadd, 1) := by decide +kernel
theorem d_Tool_fits_27 : decode prog_10_method_3_code 27 = .ok (.if_icmp .gt 26, 3) := by decide +kernel
theorem d_Tool_fits_30 : decode prog_10_method_3_code 30 = .ok (.aload_n 0, 1) := by decide +kernel
theorem d_Tool_fits_31 : decode prog_10_method_3_code 31 = .ok (.getfield 15, 3) := by decide +kernel
theorem d_Tool_fits_34 : decode prog_10_method_3_code 34 = .ok (.iload 6, 2) := by decide +kernel
theorem d_Tool_fits_36 : decode prog_10_method_3_code 36 = .ok (.iload 5, 2) := by decide +kernel
theorem d_Tool_fits_38 : decode prog_10_method_3_code 38 = .ok (.invokevirtual 46, 3) := by decide +kernel
theorem d_Tool_fits_41 : decode prog_10_method_3_code 41 = .ok (.iload_n 1, 1) := by decide +kernel
theorem d_Tool_fits_42 : decode prog_10_method_3_code 42 = .ok (.if_icmp .eq 5, 3) := by decide +kernel
theorem d_Tool_fits_45 : decode prog_10_method_3_code 45 = .ok (.iconst 0, 1) := by decide +kernel
theorem d_Tool_fits_46 : decode prog_10_method_3_code 46 = .ok (.ireturn, 1) := by decide +kernel
theorem d_Tool_fits_47 : decode prog_10_method_3_code 47 = .ok (.iinc 6 1, 3) := by decide +kernel
theorem d_Tool_fits_50 : decode prog_10_method_3_code 50 = .ok (.goto (-29), 3) := by decide +kernel
theorem d_Tool_fits_53 : decode prog_10_method_3_code 53 = .ok (.iinc 5 1, 3) := by decide +kernel
theorem d_Tool_fits_56 : decode prog_10_method_3_code 56 = .ok (.goto (-50), 3) := by decide +kernel
theorem d_Tool_fits_59 : decode prog_10_method_3_code 59 = .ok (.iconst 1, 1) := by decide +kernel
theorem d_Tool_fits_60 : decode prog_10_method_3_code 60 = .ok (.ireturn, 1) := by decide +kernel
theorem d_Tool_mark_0 : decode prog_10_method_4_code 0 = .ok (.iload_n 2, 1) := by decide +kernel
theorem d_Tool_mark_1 : decode prog_10_method_4_code 1 = .ok (.iload_n 3, 1) := by decide +kernel
theorem d_Tool_mark_2 : decode prog_10_method_4_code 2 = .ok (.isub, 1) := by decide +kernel
theorem d_Tool_mark_3 : decode prog_10_method_4_code 3 = .ok (.istore 4, 2) := by decide +kernel
theorem d_Tool_mark_5 : decode prog_10_method_4_code 5 = .ok (.iload 4, 2) := by decide +kernel
theorem d_Tool_mark_7 : decode prog_10_method_4_code 7 = .ok (.iload_n 2, 1) := by decide +kernel
theorem d_Tool_mark_8 : decode prog_10_method_4_code 8 = .ok (.iload_n 3, 1) := by decide +kernel
theorem d_Tool_mark_9 : decode prog_10_method_4_code 9 = .ok (.iadd, 1) := by decide +kernel
theorem d_Tool_mark_10 : decode prog_10_method_4_code 10 = .ok (.if_icmp .gt 75, 3) := by decide +kernel
theorem d_Tool_mark_13 : decode prog_10_method_4_code 13 = .ok (.iload_n 1, 1) := by decide +kernel
theorem d_Tool_mark_14 : decode prog_10_method_4_code 14 = .ok (.iload_n 3, 1) := by decide +kernel
theorem d_Tool_mark_15 : decode prog_10_method_4_code 15 = .ok (.isub, 1) := by decide +kernel
theorem d_Tool_mark_16 : decode prog_10_method_4_code 16 = .ok (.istore 5, 2) := by decide +kernel
theorem d_Tool_mark_18 : decode prog_10_method_4_code 18 = .ok (.iload 5, 2) := by decide +kernel
theorem d_Tool_mark_20 : decode prog_10_method_4_code 20 = .ok (.iload_n 1, 1) := by decide +kernel
theorem d_Tool_mark_21 : decode prog_10_method_4_code 21 = .ok (.iload_n 3, 1) := by decide +kernel
theorem d_Tool_mark_22 : decode prog_10_method_4_code 22 = .ok (.iadd, 1) := by decide +kernel
theorem d_Tool_mark_23 : decode prog_10_method_4_code 23 = .ok (.if_icmp .gt 56, 3) := by decide +kernel
theorem d_Tool_mark_26 : decode prog_10_method_4_code 26 = .ok (.aload_n 0, 1) := by decide +kernel
theorem d_Tool_mark_27 : decode prog_10_method_4_code 27 = .ok (.getfield 9, 3) := by decide +kernel
theorem d_Tool_mark_30 : decode prog_10_method_4_code 30 = .ok (.iload 5, 2) := by decide +kernel
theorem d_Tool_mark_32 : decode prog_10_method_4_code 32 = .ok (.iload 4, 2) := by decide +kernel
theorem d_Tool_mark_34 : decode prog_10_method_4_code 34 = .ok (.invokevirtual 52, 3) := by decide +kernel
theorem d_Tool_mark_37 : decode prog_10_method_4_code 37 = .ok (.istore 6, 2) := by decide +kernel
theorem d_Tool_mark_39 : decode prog_10_method_4_code 39 = .ok (.iload 6, 2) := by decide +kernel
theorem d_Tool_mark_41 : decode prog_10_method_4_code 41 = .ok (.iconst (-1), 1) := by decide +kernel
theorem d_Tool_mark_42 : decode prog_10_method_4_code 42 = .ok (.if_icmp .eq 31, 3) := by decide +kernel
theorem d_Tool_mark_45 : decode prog_10_method_4_code 45 = .ok (.aload_n 0, 1) := by decide +kernel
theorem d_Tool_mark_46 : decode prog_10_method_4_code 46 = .ok (.getfield 25, 3) := by decide +kernel
theorem d_Tool_mark_49 : decode prog_10_method_4_code 49 = .ok (.iload 6, 2) := by decide +kernel
theorem d_Tool_mark_51 : decode prog_10_method_4_code 51 = .ok (.baload, 1) := by decide +kernel
theorem d_Tool_mark_52 : decode prog_10_method_4_code 52 = .ok (.ifCond .ne 21, 3) := by decide +kernel
theorem d_Tool_mark_55 : decode prog_10_method_4_code 55 = .ok (.aload_n 0, 1) := by decide +kernel
theorem d_Tool_mark_56 : decode prog_10_method_4_code 56 = .ok (.getfield 25, 3) := by decide +kernel
theorem d_Tool_mark_59 : decode prog_10_method_4_code 59 = .ok (.iload 6, 2) := by decide +kernel
theorem d_Tool_mark_61 : decode prog_10_method_4_code 61 = .ok (.iconst 1, 1) := by decide +kernel
theorem d_Tool_mark_62 : decode prog_10_method_4_code 62 = .ok (.bastore, 1) := by decide +kernel
theorem d_Tool_mark_63 : decode prog_10_method_4_code 63 = .ok (.aload_n 0, 1) := by decide +kernel
theorem d_Tool_mark_64 : decode prog_10_method_4_code 64 = .ok (.dup, 1) := by decide +kernel
theorem d_Tool_mark_65 : decode prog_10_method_4_code 65 = .ok (.getfield 29, 3) := by decide +kernel
theorem d_Tool_mark_68 : decode prog_10_method_4_code 68 = .ok (.iconst 1, 1) := by decide +kernel
theorem d_Tool_mark_69 : decode prog_10_method_4_code 69 = .ok (.iadd, 1) := by decide +kernel
theorem d_Tool_mark_70 : decode prog_10_method_4_code 70 = .ok (.putfield 29, 3) := by decide +kernel
theorem d_Tool_mark_73 : decode prog_10_method_4_code 73 = .ok (.iinc 5 1, 3) := by decide +kernel
theorem d_Tool_mark_76 : decode prog_10_method_4_code 76 = .ok (.goto (-58), 3) := by decide +kernel
theorem d_Tool_mark_79 : decode prog_10_method_4_code 79 = .ok (.iinc 4 1, 3) := by decide +kernel
theorem d_Tool_mark_82 : decode prog_10_method_4_code 82 = .ok (.goto (-77), 3) := by decide +kernel
theorem d_Tool_mark_85 : decode prog_10_method_4_code 85 = .ok (.return_, 1) := by decide +kernel
theorem d_Walk_cornerX_0 : decode prog_11_method_6_code 0 = .ok (.aload_n 0, 1) := by decide +kernel
theorem d_Walk_cornerX_1 : decode prog_11_method_6_code 1 = .ok (.getfield 30, 3) := by decide +kernel
theorem d_Walk_cornerX_4 : decode prog_11_method_6_code 4 = .ok (.iload_n 1, 1) := by decide +kernel
theorem d_Walk_cornerX_5 : decode prog_11_method_6_code 5 = .ok (.iaload, 1) := by decide +kernel
theorem d_Walk_cornerX_6 : decode prog_11_method_6_code 6 = .ok (.ireturn, 1) := by decide +kernel
theorem d_Walk_cornerY_0 : decode prog_11_method_7_code 0 = .ok (.aload_n 0, 1) := by decide +kernel
theorem d_Walk_cornerY_1 : decode prog_11_method_7_code 1 = .ok (.getfield 34, 3) := by decide +kernel
theorem d_Walk_cornerY_4 : decode prog_11_method_7_code 4 = .ok (.iload_n 1, 1) := by decide +kernel
theorem d_Walk_cornerY_5 : decode prog_11_method_7_code 5 = .ok (.iaload, 1) := by decide +kernel
theorem d_Walk_cornerY_6 : decode prog_11_method_7_code 6 = .ok (.ireturn, 1) := by decide +kernel
theorem d_Walk_isAhead_0 : decode prog_11_method_4_code 0 = .ok (.aload_n 0, 1) := by decide +kernel
theorem d_Walk_isAhead_1 : decode prog_11_method_4_code 1 = .ok (.getfield 9, 3) := by decide +kernel
theorem d_Walk_isAhead_4 : decode prog_11_method_4_code 4 = .ok (.aload_n 0, 1) := by decide +kernel
theorem d_Walk_isAhead_5 : decode prog_11_method_4_code 5 = .ok (.getfield 37, 3) := by decide +kernel
theorem d_Walk_isAhead_8 : decode prog_11_method_4_code 8 = .ok (.getstatic 75, 3) := by decide +kernel
theorem d_Walk_isAhead_11 : decode prog_11_method_4_code 11 = .ok (.iload_n 2, 1) := by decide +kernel
theorem d_Walk_isAhead_12 : decode prog_11_method_4_code 12 = .ok (.iaload, 1) := by decide +kernel
theorem d_Walk_isAhead_13 : decode prog_11_method_4_code 13 = .ok (.iadd, 1) := by decide +kernel
theorem d_Walk_isAhead_14 : decode prog_11_method_4_code 14 = .ok (.aload_n 0, 1) := by decide +kernel
theorem d_Walk_isAhead_15 : decode prog_11_method_4_code 15 = .ok (.getfield 40, 3) := by decide +kernel
theorem d_Walk_isAhead_18 : decode prog_11_method_4_code 18 = .ok (.getstatic 78, 3) := by decide +kernel
theorem d_Walk_isAhead_21 : decode prog_11_method_4_code 21 = .ok (.iload_n 2, 1) := by decide +kernel
theorem d_Walk_isAhead_22 : decode prog_11_method_4_code 22 = .ok (.iaload, 1) := by decide +kernel
theorem d_Walk_isAhead_23 : decode prog_11_method_4_code 23 = .ok (.iadd, 1) := by decide +kernel
theorem d_Walk_isAhead_24 : decode prog_11_method_4_code 24 = .ok (.invokevirtual 81, 3) := by decide +kernel
theorem d_Walk_isAhead_27 : decode prog_11_method_4_code 27 = .ok (.iload_n 1, 1) := by decide +kernel
theorem d_Walk_isAhead_28 : decode prog_11_method_4_code 28 = .ok (.if_icmp .ne 7, 3) := by decide +kernel
theorem d_Walk_isAhead_31 : decode prog_11_method_4_code 31 = .ok (.iconst 1, 1) := by decide +kernel
theorem d_Walk_isAhead_32 : decode prog_11_method_4_code 32 = .ok (.goto 4, 3) := by decide +kernel
theorem d_Walk_isAhead_35 : decode prog_11_method_4_code 35 = .ok (.iconst 0, 1) := by decide +kernel
theorem d_Walk_isAhead_36 : decode prog_11_method_4_code 36 = .ok (.ireturn, 1) := by decide +kernel
theorem d_Walk_noteCorner_0 : decode prog_11_method_5_code 0 = .ok (.aload_n 0, 1) := by decide +kernel
theorem d_Walk_noteCorner_1 : decode prog_11_method_5_code 1 = .ok (.getfield 46, 3) := by decide +kernel
theorem d_Walk_noteCorner_4 : decode prog_11_method_5_code 4 = .ok (.aload_n 0, 1) := by decide +kernel
theorem d_Walk_noteCorner_5 : decode prog_11_method_5_code 5 = .ok (.getfield 30, 3) := by decide +kernel
theorem d_Walk_noteCorner_8 : decode prog_11_method_5_code 8 = .ok (.arraylength, 1) := by decide +kernel
theorem d_Walk_noteCorner_9 : decode prog_11_method_5_code 9 = .ok (.if_icmp .ge 39, 3) := by decide +kernel
theorem d_Walk_noteCorner_12 : decode prog_11_method_5_code 12 = .ok (.aload_n 0, 1) := by decide +kernel
theorem d_Walk_noteCorner_13 : decode prog_11_method_5_code 13 = .ok (.getfield 30, 3) := by decide +kernel
theorem d_Walk_noteCorner_16 : decode prog_11_method_5_code 16 = .ok (.aload_n 0, 1) := by decide +kernel
theorem d_Walk_noteCorner_17 : decode prog_11_method_5_code 17 = .ok (.getfield 46, 3) := by decide +kernel
theorem d_Walk_noteCorner_20 : decode prog_11_method_5_code 20 = .ok (.aload_n 0, 1) := by decide +kernel
theorem d_Walk_noteCorner_21 : decode prog_11_method_5_code 21 = .ok (.getfield 37, 3) := by decide +kernel
theorem d_Walk_noteCorner_24 : decode prog_11_method_5_code 24 = .ok (.iastore, 1) := by decide +kernel
theorem d_Walk_noteCorner_25 : decode prog_11_method_5_code 25 = .ok (.aload_n 0, 1) := by decide +kernel
theorem d_Walk_noteCorner_26 : decode prog_11_method_5_code 26 = .ok (.getfield 34, 3) := by decide +kernel
theorem d_Walk_noteCorner_29 : decode prog_11_method_5_code 29 = .ok (.aload_n 0, 1) := by decide +kernel
theorem d_Walk_noteCorner_30 : decode prog_11_method_5_code 30 = .ok (.getfield 46, 3) := by decide +kernel
theorem d_Walk_noteCorner_33 : decode prog_11_method_5_code 33 = .ok (.aload_n 0, 1) := by decide +kernel
theorem d_Walk_noteCorner_34 : decode prog_11_method_5_code 34 = .ok (.getfield 40, 3) := by decide +kernel
theorem d_Walk_noteCorner_37 : decode prog_11_method_5_code 37 = .ok (.iastore, 1) := by decide +kernel
theorem d_Walk_noteCorner_38 : decode prog_11_method_5_code 38 = .ok (.aload_n 0, 1) := by decide +kernel
theorem d_Walk_noteCorner_39 : decode prog_11_method_5_code 39 = .ok (.dup, 1) := by decide +kernel
theorem d_Walk_noteCorner_40 : decode prog_11_method_5_code 40 = .ok (.getfield 46, 3) := by decide +kernel
theorem d_Walk_noteCorner_43 : decode prog_11_method_5_code 43 = .ok (.iconst 1, 1) := by decide +kernel
theorem d_Walk_noteCorner_44 : decode prog_11_method_5_code 44 = .ok (.iadd, 1) := by decide +kernel
theorem d_Walk_noteCorner_45 : decode prog_11_method_5_code 45 = .ok (.putfield 46, 3) := by decide +kernel
theorem d_Walk_noteCorner_48 : decode prog_11_method_5_code 48 = .ok (.return_, 1) := by decide +kernel
theorem d_Walk_round_0 : decode prog_11_method_2_code 0 = .ok (.aload_n 0, 1) := by decide +kernel
theorem d_Walk_round_1 : decode prog_11_method_2_code 1 = .ok (.getfield 9, 3) := by decide +kernel
theorem d_Walk_round_4 : decode prog_11_method_2_code 4 = .ok (.iload_n 1, 1) := by decide +kernel
theorem d_Walk_round_5 : decode prog_11_method_2_code 5 = .ok (.invokevirtual 49, 3) := by decide +kernel
theorem d_Walk_round_8 : decode prog_11_method_2_code 8 = .ok (.istore_n 2, 1) := by decide +kernel
theorem d_Walk_round_9 : decode prog_11_method_2_code 9 = .ok (.aload_n 0, 1) := by decide +kernel
theorem d_Walk_round_10 : decode prog_11_method_2_code 10 = .ok (.getfield 9, 3) := by decide +kernel
theorem d_Walk_round_13 : decode prog_11_method_2_code 13 = .ok (.iload_n 1, 1) := by decide +kernel
theorem d_Walk_round_14 : decode prog_11_method_2_code 14 = .ok (.invokevirtual 55, 3) := by decide +kernel
theorem d_Walk_round_17 : decode prog_11_method_2_code 17 = .ok (.istore_n 3, 1) := by decide +kernel
theorem d_Walk_round_18 : decode prog_11_method_2_code 18 = .ok (.aload_n 0, 1) := by decide +kernel
theorem d_Walk_round_19 : decode prog_11_method_2_code 19 = .ok (.iload_n 2, 1) := by decide +kernel
theorem d_Walk_round_20 : decode prog_11_method_2_code 20 = .ok (.putfield 37, 3) := by decide +kernel
theorem d_Walk_round_23 : decode prog_11_method_2_code 23 = .ok (.aload_n 0, 1) := by decide +kernel
theorem d_Walk_round_24 : decode prog_11_method_2_code 24 = .ok (.iload_n 3, 1) := by decide +kernel
theorem d_Walk_round_25 : decode prog_11_method_2_code 25 = .ok (.putfield 40, 3) := by decide +kernel
theorem d_Walk_round_28 : decode prog_11_method_2_code 28 = .ok (.aload_n 0, 1) := by decide +kernel
theorem d_Walk_round_29 : decode prog_11_method_2_code 29 = .ok (.iconst 0, 1) := by decide +kernel
theorem d_Walk_round_30 : decode prog_11_method_2_code 30 = .ok (.putfield 43, 3) := by decide +kernel
theorem d_Walk_round_33 : decode prog_11_method_2_code 33 = .ok (.aload_n 0, 1) := by decide +kernel
theorem d_Walk_round_34 : decode prog_11_method_2_code 34 = .ok (.iconst 0, 1) := by decide +kernel
theorem d_Walk_round_35 : decode prog_11_method_2_code 35 = .ok (.putfield 46, 3) := by decide +kernel
theorem d_Walk_round_38 : decode prog_11_method_2_code 38 = .ok (.aload_n 0, 1) := by decide +kernel
theorem d_Walk_round_39 : decode prog_11_method_2_code 39 = .ok (.invokevirtual 58, 3) := by decide +kernel
theorem d_Walk_round_42 : decode prog_11_method_2_code 42 = .ok (.iconst 0, 1) := by decide +kernel
theorem d_Walk_round_43 : decode prog_11_method_2_code 43 = .ok (.istore 4, 2) := by decide +kernel
theorem d_Walk_round_45 : decode prog_11_method_2_code 45 = .ok (.iload 4, 2) := by decide +kernel
theorem d_Walk_round_47 : decode prog_11_method_2_code 47 = .ok (.aload_n 0, 1) := by decide +kernel
theorem d_Walk_round_48 : decode prog_11_method_2_code 48 = .ok (.getfield 21, 3) := by decide +kernel
theorem d_Walk_round_51 : decode prog_11_method_2_code 51 = .ok (.if_icmp .ge 67, 3) := by decide +kernel
theorem d_Walk_round_54 : decode prog_11_method_2_code 54 = .ok (.aload_n 0, 1) := by decide +kernel
theorem d_Walk_round_55 : decode prog_11_method_2_code 55 = .ok (.dup, 1) := by decide +kernel
theorem d_Walk_round_56 : decode prog_11_method_2_code 56 = .ok (.getfield 37, 3) := by decide +kernel
theorem d_Walk_round_59 : decode prog_11_method_2_code 59 = .ok (.getstatic 61, 3) := by decide +kernel
theorem d_Walk_round_62 : decode prog_11_method_2_code 62 = .ok (.aload_n 0, 1) := by decide +kernel
theorem d_Walk_round_63 : decode prog_11_method_2_code 63 = .ok (.getfield 43, 3) := by decide +kernel
theorem d_Walk_round_66 : decode prog_11_method_2_code 66 = .ok (.iaload, 1) := by decide +kernel
theorem d_Walk_round_67 : decode prog_11_method_2_code 67 = .ok (.iadd, 1) := by decide +kernel
theorem d_Walk_round_68 : decode prog_11_method_2_code 68 = .ok (.putfield 37, 3) := by decide +kernel
theorem d_Walk_round_71 : decode prog_11_method_2_code 71 = .ok (.aload_n 0, 1) := by decide +kernel
theorem d_Walk_round_72 : decode prog_11_method_2_code 72 = .ok (.dup, 1) := by decide +kernel
theorem d_Walk_round_73 : decode prog_11_method_2_code 73 = .ok (.getfield 40, 3) := by decide +kernel
theorem d_Walk_round_76 : decode prog_11_method_2_code 76 = .ok (.getstatic 64, 3) := by decide +kernel
theorem d_Walk_round_79 : decode prog_11_method_2_code 79 = .ok (.aload_n 0, 1) := by decide +kernel
theorem d_Walk_round_80 : decode prog_11_method_2_code 80 = .ok (.getfield 43, 3) := by decide +kernel
theorem d_Walk_round_83 : decode prog_11_method_2_code 83 = .ok (.iaload, 1) := by decide +kernel
theorem d_Walk_round_84 : decode prog_11_method_2_code 84 = .ok (.iadd, 1) := by decide +kernel
theorem d_Walk_round_85 : decode prog_11_method_2_code 85 = .ok (.putfield 40, 3) := by decide +kernel
theorem d_Walk_round_88 : decode prog_11_method_2_code 88 = .ok (.aload_n 0, 1) := by decide +kernel
theorem d_Walk_round_89 : decode prog_11_method_2_code 89 = .ok (.getfield 37, 3) := by decide +kernel
theorem d_Walk_round_92 : decode prog_11_method_2_code 92 = .ok (.iload_n 2, 1) := by decide +kernel
theorem d_Walk_round_93 : decode prog_11_method_2_code 93 = .ok (.if_icmp .ne 14, 3) := by decide +kernel
theorem d_Walk_round_96 : decode prog_11_method_2_code 96 = .ok (.aload_n 0, 1) := by decide +kernel
theorem d_Walk_round_97 : decode prog_11_method_2_code 97 = .ok (.getfield 40, 3) := by decide +kernel
theorem d_Walk_round_100 : decode prog_11_method_2_code 100 = .ok (.iload_n 3, 1) := by decide +kernel
theorem d_Walk_round_101 : decode prog_11_method_2_code 101 = .ok (.if_icmp .ne 6, 3) := by decide +kernel
theorem d_Walk_round_104 : decode prog_11_method_2_code 104 = .ok (.goto 14, 3) := by decide +kernel
theorem d_Walk_round_107 : decode prog_11_method_2_code 107 = .ok (.aload_n 0, 1) := by decide +kernel
theorem d_Walk_round_108 : decode prog_11_method_2_code 108 = .ok (.iload_n 1, 1) := by decide +kernel
theorem d_Walk_round_109 : decode prog_11_method_2_code 109 = .ok (.invokevirtual 67, 3) := by decide +kernel
theorem d_Walk_round_112 : decode prog_11_method_2_code 112 = .ok (.iinc 4 1, 3) := by decide +kernel
theorem d_Walk_round_115 : decode prog_11_method_2_code 115 = .ok (.goto (-70), 3) := by decide +kernel
theorem d_Walk_round_118 : decode prog_11_method_2_code 118 = .ok (.return_, 1) := by decide +kernel
theorem d_Walk_turn_0 : decode prog_11_method_3_code 0 = .ok (.aload_n 0, 1) := by decide +kernel
theorem d_Walk_turn_1 : decode prog_11_method_3_code 1 = .ok (.getfield 43, 3) := by decide +kernel
theorem d_Walk_turn_4 : decode prog_11_method_3_code 4 = .ok (.iconst 4, 1) := by decide +kernel
theorem d_Walk_turn_5 : decode prog_11_method_3_code 5 = .ok (.iadd, 1) := by decide +kernel
theorem d_Walk_turn_6 : decode prog_11_method_3_code 6 = .ok (.iconst 1, 1) := by decide +kernel
theorem d_Walk_turn_7 : decode prog_11_method_3_code 7 = .ok (.isub, 1) := by decide +kernel
theorem d_Walk_turn_8 : decode prog_11_method_3_code 8 = .ok (.iconst 4, 1) := by decide +kernel
theorem d_Walk_turn_9 : decode prog_11_method_3_code 9 = .ok (.irem, 1) := by decide +kernel
theorem d_Walk_turn_10 : decode prog_11_method_3_code 10 = .ok (.istore_n 2, 1) := by decide +kernel
theorem d_Walk_turn_11 : decode prog_11_method_3_code 11 = .ok (.aload_n 0, 1) := by decide +kernel
theorem d_Walk_turn_12 : decode prog_11_method_3_code 12 = .ok (.iload_n 1, 1) := by decide +kernel
theorem d_Walk_turn_13 : decode prog_11_method_3_code 13 = .ok (.aload_n 0, 1) := by decide +kernel
theorem d_Walk_turn_14 : decode prog_11_method_3_code 14 = .ok (.getfield 43, 3) := by decide +kernel
theorem d_Walk_turn_17 : decode prog_11_method_3_code 17 = .ok (.invokevirtual 71, 3) := by decide +kernel
theorem d_Walk_turn_20 : decode prog_11_method_3_code 20 = .ok (.ifCond .ne 22, 3) := by decide +kernel
theorem d_Walk_turn_23 : decode prog_11_method_3_code 23 = .ok (.aload_n 0, 1) := by decide +kernel
theorem d_Walk_turn_24 : decode prog_11_method_3_code 24 = .ok (.aload_n 0, 1) := by decide +kernel
theorem d_Walk_turn_25 : decode prog_11_method_3_code 25 = .ok (.getfield 43, 3) := by decide +kernel
theorem d_Walk_turn_28 : decode prog_11_method_3_code 28 = .ok (.iconst 1, 1) := by decide +kernel
theorem d_Walk_turn_29 : decode prog_11_method_3_code 29 = .ok (.iadd, 1) := by decide +kernel
theorem d_Walk_turn_30 : decode prog_11_method_3_code 30 = .ok (.iconst 4, 1) := by decide +kernel
theorem d_Walk_turn_31 : decode prog_11_method_3_code 31 = .ok (.irem, 1) := by decide +kernel
theorem d_Walk_turn_32 : decode prog_11_method_3_code 32 = .ok (.putfield 43, 3) := by decide +kernel
theorem d_Walk_turn_35 : decode prog_11_method_3_code 35 = .ok (.aload_n 0, 1) := by decide +kernel
theorem d_Walk_turn_36 : decode prog_11_method_3_code 36 = .ok (.invokevirtual 58, 3) := by decide +kernel
theorem d_Walk_turn_39 : decode prog_11_method_3_code 39 = .ok (.goto 21, 3) := by decide +kernel
theorem d_Walk_turn_42 : decode prog_11_method_3_code 42 = .ok (.aload_n 0, 1) := by decide +kernel
theorem d_Walk_turn_43 : decode prog_11_method_3_code 43 = .ok (.iload_n 1, 1) := by decide +kernel
theorem d_Walk_turn_44 : decode prog_11_method_3_code 44 = .ok (.iload_n 2, 1) := by decide +kernel
theorem d_Walk_turn_45 : decode prog_11_method_3_code 45 = .ok (.invokevirtual 71, 3) := by decide +kernel
theorem d_Walk_turn_48 : decode prog_11_method_3_code 48 = .ok (.ifCond .eq 12, 3) := by decide +kernel
theorem d_Walk_turn_51 : decode prog_11_method_3_code 51 = .ok (.aload_n 0, 1) := by decide +kernel
theorem d_Walk_turn_52 : decode prog_11_method_3_code 52 = .ok (.iload_n 2, 1) := by decide +kernel
theorem d_Walk_turn_53 : decode prog_11_method_3_code 53 = .ok (.putfield 43, 3) := by decide +kernel
theorem d_Walk_turn_56 : decode prog_11_method_3_code 56 = .ok (.aload_n 0, 1) := by decide +kernel
theorem d_Walk_turn_57 : decode prog_11_method_3_code 57 = .ok (.invokevirtual 58, 3) := by decide +kernel
theorem d_Walk_turn_60 : decode prog_11_method_3_code 60 = .ok (.return_, 1) := by decide +kernel
theorem d_Integer_compare_0 : decode prog_18_method_40_code 0 = .ok (.iload_n 0, 1) := by decide +kernel
theorem d_Integer_compare_1 : decode prog_18_method_40_code 1 = .ok (.iload_n 1, 1) := by decide +kernel
theorem d_Integer_compare_2 : decode prog_18_method_40_code 2 = .ok (.if_icmp .ge 7, 3) := by decide +kernel
theorem d_Integer_compare_5 : decode prog_18_method_40_code 5 = .ok (.iconst (-1), 1) := by decide +kernel
theorem d_Integer_compare_6 : decode prog_18_method_40_code 6 = .ok (.goto 13, 3) := by decide +kernel
theorem d_Integer_compare_9 : decode prog_18_method_40_code 9 = .ok (.iload_n 0, 1) := by decide +kernel
theorem d_Integer_compare_10 : decode prog_18_method_40_code 10 = .ok (.iload_n 1, 1) := by decide +kernel
theorem d_Integer_compare_11 : decode prog_18_method_40_code 11 = .ok (.if_icmp .ne 7, 3) := by decide +kernel
theorem d_Integer_compare_14 : decode prog_18_method_40_code 14 = .ok (.iconst 0, 1) := by decide +kernel
theorem d_Integer_compare_15 : decode prog_18_method_40_code 15 = .ok (.goto 4, 3) := by decide +kernel
theorem d_Integer_compare_18 : decode prog_18_method_40_code 18 = .ok (.iconst 1, 1) := by decide +kernel
theorem d_Integer_compare_19 : decode prog_18_method_40_code 19 = .ok (.ireturn, 1) := by decide +kernel
theorem d_Arrays_fill_0 : decode prog_23_method_103_code 0 = .ok (.iconst 0, 1) := by decide +kernel
theorem d_Arrays_fill_1 : decode prog_23_method_103_code 1 = .ok (.istore_n 2, 1) := by decide +kernel
theorem d_Arrays_fill_2 : decode prog_23_method_103_code 2 = .ok (.aload_n 0, 1) := by decide +kernel
theorem d_Arrays_fill_3 : decode prog_23_method_103_code 3 = .ok (.arraylength, 1) := by decide +kernel
theorem d_Arrays_fill_4 : decode prog_23_method_103_code 4 = .ok (.istore_n 3, 1) := by decide +kernel
theorem d_Arrays_fill_5 : decode prog_23_method_103_code 5 = .ok (.iload_n 2, 1) := by decide +kernel
theorem d_Arrays_fill_6 : decode prog_23_method_103_code 6 = .ok (.iload_n 3, 1) := by decide +kernel
theorem d_Arrays_fill_7 : decode prog_23_method_103_code 7 = .ok (.if_icmp .ge 13, 3) := by decide +kernel
theorem d_Arrays_fill_10 : decode prog_23_method_103_code 10 = .ok (.aload_n 0, 1) := by decide +kernel
theorem d_Arrays_fill_11 : decode prog_23_method_103_code 11 = .ok (.iload_n 2, 1) := by decide +kernel
theorem d_Arrays_fill_12 : decode prog_23_method_103_code 12 = .ok (.iload_n 1, 1) := by decide +kernel
theorem d_Arrays_fill_13 : decode prog_23_method_103_code 13 = .ok (.iastore, 1) := by decide +kernel
theorem d_Arrays_fill_14 : decode prog_23_method_103_code 14 = .ok (.iinc 2 1, 3) := by decide +kernel
theorem d_Arrays_fill_17 : decode prog_23_method_103_code 17 = .ok (.goto (-12), 3) := by decide +kernel
theorem d_Arrays_fill_20 : decode prog_23_method_103_code 20 = .ok (.return_, 1) := by decide +kernel
