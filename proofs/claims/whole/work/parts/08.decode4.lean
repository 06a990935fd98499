theorem d_Ranking_rank_12 : decode prog_8_method_3_code 12 = .ok (.arraylength, 1) := by decide +kernel
theorem d_Ranking_rank_13 : decode prog_8_method_3_code 13 = .ok (.if_icmp .ge 58, 3) := by decide +kernel
theorem d_Ranking_rank_16 : decode prog_8_method_3_code 16 = .ok (.iload_n 2, 1) := by decide +kernel
theorem d_Ranking_rank_17 : decode prog_8_method_3_code 17 = .ok (.istore_n 3, 1) := by decide +kernel
theorem d_Ranking_rank_18 : decode prog_8_method_3_code 18 = .ok (.iload_n 3, 1) := by decide +kernel
theorem d_Ranking_rank_19 : decode prog_8_method_3_code 19 = .ok (.ifCond .le 39, 3) := by decide +kernel
theorem d_Ranking_rank_22 : decode prog_8_method_3_code 22 = .ok (.aload_n 0, 1) := by decide +kernel
theorem d_Ranking_rank_23 : decode prog_8_method_3_code 23 = .ok (.iload_n 2, 1) := by decide +kernel
theorem d_Ranking_rank_24 : decode prog_8_method_3_code 24 = .ok (.aload_n 0, 1) := by decide +kernel
theorem d_Ranking_rank_25 : decode prog_8_method_3_code 25 = .ok (.getfield 7, 3) := by decide +kernel
theorem d_Ranking_rank_28 : decode prog_8_method_3_code 28 = .ok (.iload_n 3, 1) := by decide +kernel
theorem d_Ranking_rank_29 : decode prog_8_method_3_code 29 = .ok (.iconst 1, 1) := by decide +kernel
theorem d_Ranking_rank_30 : decode prog_8_method_3_code 30 = .ok (.isub, 1) := by decide +kernel
theorem d_Ranking_rank_31 : decode prog_8_method_3_code 31 = .ok (.iaload, 1) := by decide +kernel
theorem d_Ranking_rank_32 : decode prog_8_method_3_code 32 = .ok (.invokevirtual 13, 3) := by decide +kernel
theorem d_Ranking_rank_35 : decode prog_8_method_3_code 35 = .ok (.ifCond .ge 23, 3) := by decide +kernel
theorem d_Ranking_rank_38 : decode prog_8_method_3_code 38 = .ok (.aload_n 0, 1) := by decide +kernel
theorem d_Ranking_rank_39 : decode prog_8_method_3_code 39 = .ok (.getfield 7, 3) := by decide +kernel
theorem d_Ranking_rank_42 : decode prog_8_method_3_code 42 = .ok (.iload_n 3, 1) := by decide +kernel
theorem d_Ranking_rank_43 : decode prog_8_method_3_code 43 = .ok (.aload_n 0, 1) := by decide +kernel
theorem d_Ranking_rank_44 : decode prog_8_method_3_code 44 = .ok (.getfield 7, 3) := by decide +kernel
theorem d_Ranking_rank_47 : decode prog_8_method_3_code 47 = .ok (.iload_n 3, 1) := by decide +kernel
theorem d_Ranking_rank_48 : decode prog_8_method_3_code 48 = .ok (.iconst 1, 1) := by decide +kernel
theorem d_Ranking_rank_49 : decode prog_8_method_3_code 49 = .ok (.isub, 1) := by decide +kernel
theorem d_Ranking_rank_50 : decode prog_8_method_3_code 50 = .ok (.iaload, 1) := by decide +kernel
theorem d_Ranking_rank_51 : decode prog_8_method_3_code 51 = .ok (.iastore, 1) := by decide +kernel
theorem d_Ranking_rank_52 : decode prog_8_method_3_code 52 = .ok (.iinc 3 (-1), 3) := by decide +kernel
theorem d_Ranking_rank_55 : decode prog_8_method_3_code 55 = .ok (.goto (-37), 3) := by decide +kernel
theorem d_Ranking_rank_58 : decode prog_8_method_3_code 58 = .ok (.aload_n 0, 1) := by decide +kernel
theorem d_Ranking_rank_59 : decode prog_8_method_3_code 59 = .ok (.getfield 7, 3) := by decide +kernel
theorem d_Ranking_rank_62 : decode prog_8_method_3_code 62 = .ok (.iload_n 3, 1) := by decide +kernel
theorem d_Ranking_rank_63 : decode prog_8_method_3_code 63 = .ok (.iload_n 2, 1) := by decide +kernel
theorem d_Ranking_rank_64 : decode prog_8_method_3_code 64 = .ok (.iastore, 1) := by decide +kernel
theorem d_Ranking_rank_65 : decode prog_8_method_3_code 65 = .ok (.iinc 2 1, 3) := by decide +kernel
theorem d_Ranking_rank_68 : decode prog_8_method_3_code 68 = .ok (.goto (-66), 3) := by decide +kernel
theorem d_Ranking_rank_71 : decode prog_8_method_3_code 71 = .ok (.return_, 1) := by decide +kernel
theorem d_Ranking_ranked_0 : decode prog_8_method_4_code 0 = .ok (.aload_n 0, 1) := by decide +kernel
theorem d_Ranking_ranked_1 : decode prog_8_method_4_code 1 = .ok (.getfield 7, 3) := by decide +kernel
theorem d_Ranking_ranked_4 : decode prog_8_method_4_code 4 = .ok (.iload_n 1, 1) := by decide +kernel
theorem d_Ranking_ranked_5 : decode prog_8_method_4_code 5 = .ok (.iaload, 1) := by decide +kernel
theorem d_Ranking_ranked_6 : decode prog_8_method_4_code 6 = .ok (.ireturn, 1) := by decide +kernel
theorem d_Sheet_fill_0 : decode prog_9_method_2_code 0 = .ok (.aload_n 0, 1) := by decide +kernel
theorem d_Sheet_fill_1 : decode prog_9_method_2_code 1 = .ok (.getfield 20, 3) := by decide +kernel
theorem d_Sheet_fill_4 : decode prog_9_method_2_code 4 = .ok (.aload_n 0, 1) := by decide +kernel
theorem d_Sheet_fill_5 : decode prog_9_method_2_code 5 = .ok (.getfield 9, 3) := by decide +kernel
theorem d_Sheet_fill_8 : decode prog_9_method_2_code 8 = .ok (.getfield 47, 3) := by decide +kernel
theorem d_Sheet_fill_11 : decode prog_9_method_2_code 11 = .ok (.invokevirtual 52, 3) := by decide +kernel
theorem d_Sheet_fill_14 : decode prog_9_method_2_code 14 = .ok (.aload_n 0, 1) := by decide +kernel
theorem d_Sheet_fill_15 : decode prog_9_method_2_code 15 = .ok (.iconst 0, 1) := by decide +kernel
theorem d_Sheet_fill_16 : decode prog_9_method_2_code 16 = .ok (.putfield 40, 3) := by decide +kernel
theorem d_Sheet_fill_19 : decode prog_9_method_2_code 19 = .ok (.aload_n 0, 1) := by decide +kernel
theorem d_Sheet_fill_20 : decode prog_9_method_2_code 20 = .ok (.iconst 0, 1) := by decide +kernel
theorem d_Sheet_fill_21 : decode prog_9_method_2_code 21 = .ok (.putfield 44, 3) := by decide +kernel
theorem d_Sheet_fill_24 : decode prog_9_method_2_code 24 = .ok (.iconst 0, 1) := by decide +kernel
theorem d_Sheet_fill_25 : decode prog_9_method_2_code 25 = .ok (.istore_n 3, 1) := by decide +kernel
theorem d_Sheet_fill_26 : decode prog_9_method_2_code 26 = .ok (.iconst 0, 1) := by decide +kernel
theorem d_Sheet_fill_27 : decode prog_9_method_2_code 27 = .ok (.istore 4, 2) := by decide +kernel
theorem d_Sheet_fill_29 : decode prog_9_method_2_code 29 = .ok (.iload 4, 2) := by decide +kernel
theorem d_Sheet_fill_31 : decode prog_9_method_2_code 31 = .ok (.aload_n 0, 1) := by decide +kernel
theorem d_Sheet_fill_32 : decode prog_9_method_2_code 32 = .ok (.getfield 9, 3) := by decide +kernel
theorem d_Sheet_fill_35 : decode prog_9_method_2_code 35 = .ok (.getfield 47, 3) := by decide +kernel
theorem d_Sheet_fill_38 : decode prog_9_method_2_code 38 = .ok (.if_icmp .ge 66, 3) := by decide +kernel
theorem d_Sheet_fill_41 : decode prog_9_method_2_code 41 = .ok (.aload_n 0, 1) := by decide +kernel
theorem d_Sheet_fill_42 : decode prog_9_method_2_code 42 = .ok (.getfield 20, 3) := by decide +kernel
theorem d_Sheet_fill_45 : decode prog_9_method_2_code 45 = .ok (.iload 4, 2) := by decide +kernel
theorem d_Sheet_fill_47 : decode prog_9_method_2_code 47 = .ok (.invokevirtual 58, 3) := by decide +kernel
theorem d_Sheet_fill_50 : decode prog_9_method_2_code 50 = .ok (.istore 5, 2) := by decide +kernel
theorem d_Sheet_fill_52 : decode prog_9_method_2_code 52 = .ok (.aload_n 0, 1) := by decide +kernel
theorem d_Sheet_fill_53 : decode prog_9_method_2_code 53 = .ok (.iload 5, 2) := by decide +kernel
theorem d_Sheet_fill_55 : decode prog_9_method_2_code 55 = .ok (.iload_n 1, 1) := by decide +kernel
theorem d_Sheet_fill_56 : decode prog_9_method_2_code 56 = .ok (.iload_n 2, 1) := by decide +kernel
theorem d_Sheet_fill_57 : decode prog_9_method_2_code 57 = .ok (.invokevirtual 62, 3) := by decide +kernel
theorem d_Sheet_fill_60 : decode prog_9_method_2_code 60 = .ok (.istore 6, 2) := by decide +kernel
theorem d_Sheet_fill_62 : decode prog_9_method_2_code 62 = .ok (.iload 6, 2) := by decide +kernel
theorem d_Sheet_fill_64 : decode prog_9_method_2_code 64 = .ok (.iconst (-1), 1) := by decide +kernel
theorem d_Sheet_fill_65 : decode prog_9_method_2_code 65 = .ok (.if_icmp .ne 22, 3) := by decide +kernel
theorem d_Sheet_fill_68 : decode prog_9_method_2_code 68 = .ok (.aload_n 0, 1) := by decide +kernel
theorem d_Sheet_fill_69 : decode prog_9_method_2_code 69 = .ok (.getfield 24, 3) := by decide +kernel
theorem d_Sheet_fill_72 : decode prog_9_method_2_code 72 = .ok (.iload 5, 2) := by decide +kernel
theorem d_Sheet_fill_74 : decode prog_9_method_2_code 74 = .ok (.iconst (-1), 1) := by decide +kernel
theorem d_Sheet_fill_75 : decode prog_9_method_2_code 75 = .ok (.iastore, 1) := by decide +kernel
theorem d_Sheet_fill_76 : decode prog_9_method_2_code 76 = .ok (.aload_n 0, 1) := by decide +kernel
theorem d_Sheet_fill_77 : decode prog_9_method_2_code 77 = .ok (.getfield 28, 3) := by decide +kernel
theorem d_Sheet_fill_80 : decode prog_9_method_2_code 80 = .ok (.iload 5, 2) := by decide +kernel
theorem d_Sheet_fill_82 : decode prog_9_method_2_code 82 = .ok (.iconst (-1), 1) := by decide +kernel
theorem d_Sheet_fill_83 : decode prog_9_method_2_code 83 = .ok (.iastore, 1) := by decide +kernel
theorem d_Sheet_fill_84 : decode prog_9_method_2_code 84 = .ok (.goto 14, 3) := by decide +kernel
theorem d_Sheet_fill_87 : decode prog_9_method_2_code 87 = .ok (.aload_n 0, 1) := by decide +kernel
theorem d_Sheet_fill_88 : decode prog_9_method_2_code 88 = .ok (.iload 5, 2) := by decide +kernel
theorem d_Sheet_fill_90 : decode prog_9_method_2_code 90 = .ok (.iload 6, 2) := by decide +kernel
theorem d_Sheet_fill_92 : decode prog_9_method_2_code 92 = .ok (.invokevirtual 66, 3) := by decide +kernel
theorem d_Sheet_fill_95 : decode prog_9_method_2_code 95 = .ok (.iinc 3 1, 3) := by decide +kernel
theorem d_Sheet_fill_98 : decode prog_9_method_2_code 98 = .ok (.iinc 4 1, 3) := by decide +kernel
theorem d_Sheet_fill_101 : decode prog_9_method_2_code 101 = .ok (.goto (-72), 3) := by decide +kernel
theorem d_Sheet_fill_104 : decode prog_9_method_2_code 104 = .ok (.iload_n 3, 1) := by decide +kernel
theorem d_Sheet_fill_105 : decode prog_9_method_2_code 105 = .ok (.ireturn, 1) := by decide +kernel
theorem d_Sheet_newRow_0 : decode prog_9_method_4_code 0 = .ok (.aload_n 0, 1) := by decide +kernel
theorem d_Sheet_newRow_1 : decode prog_9_method_4_code 1 = .ok (.getfield 40, 3) := by decide +kernel
theorem d_Sheet_newRow_4 : decode prog_9_method_4_code 4 = .ok (.aload_n 0, 1) := by decide +kernel
theorem d_Sheet_newRow_5 : decode prog_9_method_4_code 5 = .ok (.getfield 31, 3) := by decide +kernel
theorem d_Sheet_newRow_8 : decode prog_9_method_4_code 8 = .ok (.arraylength, 1) := by decide +kernel
theorem d_Sheet_newRow_9 : decode prog_9_method_4_code 9 = .ok (.if_icmp .lt 5, 3) := by decide +kernel
theorem d_Sheet_newRow_12 : decode prog_9_method_4_code 12 = .ok (.iconst (-1), 1) := by decide +kernel
theorem d_Sheet_newRow_13 : decode prog_9_method_4_code 13 = .ok (.ireturn, 1) := by decide +kernel
theorem d_Sheet_newRow_14 : decode prog_9_method_4_code 14 = .ok (.aload_n 0, 1) := by decide +kernel
theorem d_Sheet_newRow_15 : decode prog_9_method_4_code 15 = .ok (.getfield 31, 3) := by decide +kernel
theorem d_Sheet_newRow_18 : decode prog_9_method_4_code 18 = .ok (.aload_n 0, 1) := by decide +kernel
theorem d_Sheet_newRow_19 : decode prog_9_method_4_code 19 = .ok (.getfield 40, 3) := by decide +kernel
theorem d_Sheet_newRow_22 : decode prog_9_method_4_code 22 = .ok (.aload_n 0, 1) := by decide +kernel
theorem d_Sheet_newRow_23 : decode prog_9_method_4_code 23 = .ok (.getfield 44, 3) := by decide +kernel
theorem d_Sheet_newRow_26 : decode prog_9_method_4_code 26 = .ok (.iastore, 1) := by decide +kernel
theorem d_Sheet_newRow_27 : decode prog_9_method_4_code 27 = .ok (.aload_n 0, 1) := by decide +kernel
theorem d_Sheet_newRow_28 : decode prog_9_method_4_code 28 = .ok (.getfield 34, 3) := by decide +kernel
theorem d_Sheet_newRow_31 : decode prog_9_method_4_code 31 = .ok (.aload_n 0, 1) := by decide +kernel
theorem d_Sheet_newRow_32 : decode prog_9_method_4_code 32 = .ok (.getfield 40, 3) := by decide +kernel
theorem d_Sheet_newRow_35 : decode prog_9_method_4_code 35 = .ok (.iload_n 1, 1) := by decide +kernel
theorem d_Sheet_newRow_36 : decode prog_9_method_4_code 36 = .ok (.iastore, 1) := by decide +kernel
theorem d_Sheet_newRow_37 : decode prog_9_method_4_code 37 = .ok (.aload_n 0, 1) := by decide +kernel
theorem d_Sheet_newRow_38 : decode prog_9_method_4_code 38 = .ok (.getfield 37, 3) := by decide +kernel
theorem d_Sheet_newRow_41 : decode prog_9_method_4_code 41 = .ok (.aload_n 0, 1) := by decide +kernel
theorem d_Sheet_newRow_42 : decode prog_9_method_4_code 42 = .ok (.getfield 40, 3) := by decide +kernel
theorem d_Sheet_newRow_45 : decode prog_9_method_4_code 45 = .ok (.iconst 0, 1) := by decide +kernel
theorem d_Sheet_newRow_46 : decode prog_9_method_4_code 46 = .ok (.iastore, 1) := by decide +kernel
theorem d_Sheet_newRow_47 : decode prog_9_method_4_code 47 = .ok (.aload_n 0, 1) := by decide +kernel
theorem d_Sheet_newRow_48 : decode prog_9_method_4_code 48 = .ok (.dup, 1) := by decide +kernel
theorem d_Sheet_newRow_49 : decode prog_9_method_4_code 49 = .ok (.getfield 44, 3) := by decide +kernel
theorem d_Sheet_newRow_52 : decode prog_9_method_4_code 52 = .ok (.iload_n 1, 1) := by decide +kernel
theorem d_Sheet_newRow_53 : decode prog_9_method_4_code 53 = .ok (.iadd, 1) := by decide +kernel
theorem d_Sheet_newRow_54 : decode prog_9_method_4_code 54 = .ok (.putfield 44, 3) := by decide +kernel
theorem d_Sheet_newRow_57 : decode prog_9_method_4_code 57 = .ok (.aload_n 0, 1) := by decide +kernel
theorem d_Sheet_newRow_58 : decode prog_9_method_4_code 58 = .ok (.dup, 1) := by decide +kernel
theorem d_Sheet_newRow_59 : decode prog_9_method_4_code 59 = .ok (.getfield 40, 3) := by decide +kernel
theorem d_Sheet_newRow_62 : decode prog_9_method_4_code 62 = .ok (.iconst 1, 1) := by decide +kernel
theorem d_Sheet_newRow_63 : decode prog_9_method_4_code 63 = .ok (.iadd, 1) := by decide +kernel
theorem d_Sheet_newRow_64 : decode prog_9_method_4_code 64 = .ok (.putfield 40, 3) := by decide +kernel
theorem d_Sheet_newRow_67 : decode prog_9_method_4_code 67 = .ok (.aload_n 0, 1) := by decide +kernel
theorem d_Sheet_newRow_68 : decode prog_9_method_4_code 68 = .ok (.getfield 40, 3) := by decide +kernel
theorem d_Sheet_newRow_71 : decode prog_9_method_4_code 71 = .ok (.iconst 1, 1) := by decide +kernel
theorem d_Sheet_newRow_72 : decode prog_9_method_4_code 72 = .ok (.isub, 1) := by decide +kernel
theorem d_Sheet_newRow_73 : decode prog_9_method_4_code 73 = .ok (.ireturn, 1) := by decide +kernel
theorem d_Sheet_put_0 : decode prog_9_method_5_code 0 = .ok (.aload_n 0, 1) := by decide +kernel
theorem d_Sheet_put_1 : decode prog_9_method_5_code 1 = .ok (.getfield 24, 3) := by decide +kernel
theorem d_Sheet_put_4 : decode prog_9_method_5_code 4 = .ok (.iload_n 1, 1) := by decide +kernel
theorem d_Sheet_put_5 : decode prog_9_method_5_code 5 = .ok (.aload_n 0, 1) := by decide +kernel
theorem d_Sheet_put_6 : decode prog_9_method_5_code 6 = .ok (.getfield 37, 3) := by decide +kernel
theorem d_Sheet_put_9 : decode prog_9_method_5_code 9 = .ok (.iload_n 2, 1) := by decide +kernel
theorem d_Sheet_put_10 : decode prog_9_method_5_code 10 = .ok (.iaload, 1) := by decide +kernel
theorem d_Sheet_put_11 : decode prog_9_method_5_code 11 = .ok (.iastore, 1) := by decide +kernel
theorem d_Sheet_put_12 : decode prog_9_method_5_code 12 = .ok (.aload_n 0, 1) := by decide +kernel
theorem d_Sheet_put_13 : decode prog_9_method_5_code 13 = .ok (.getfield 28, 3) := by decide +kernel
theorem d_Sheet_put_16 : decode prog_9_method_5_code 16 = .ok (.iload_n 1, 1) := by decide +kernel
theorem d_Sheet_put_17 : decode prog_9_method_5_code 17 = .ok (.aload_n 0, 1) := by decide +kernel
theorem d_Sheet_put_18 : decode prog_9_method_5_code 18 = .ok (.getfield 31, 3) := by decide +kernel
theorem d_Sheet_put_21 : decode prog_9_method_5_code 21 = .ok (.iload_n 2, 1) := by decide +kernel
theorem d_Sheet_put_22 : decode prog_9_method_5_code 22 = .ok (.iaload, 1) := by decide +kernel
theorem d_Sheet_put_23 : decode prog_9_method_5_code 23 = .ok (.iastore, 1) := by decide +kernel
theorem d_Sheet_put_24 : decode prog_9_method_5_code 24 = .ok (.aload_n 0, 1) := by decide +kernel
theorem d_Sheet_put_25 : decode prog_9_method_5_code 25 = .ok (.getfield 37, 3) := by decide +kernel
theorem d_Sheet_put_28 : decode prog_9_method_5_code 28 = .ok (.iload_n 2, 1) := by decide +kernel
theorem d_Sheet_put_29 : decode prog_9_method_5_code 29 = .ok (.dup2, 1) := by decide +kernel
theorem d_Sheet_put_30 : decode prog_9_method_5_code 30 = .ok (.iaload, 1) := by decide +kernel
theorem d_Sheet_put_31 : decode prog_9_method_5_code 31 = .ok (.aload_n 0, 1) := by decide +kernel
theorem d_Sheet_put_32 : decode prog_9_method_5_code 32 = .ok (.getfield 9, 3) := by decide +kernel
theorem d_Sheet_put_35 : decode prog_9_method_5_code 35 = .ok (.iload_n 1, 1) := by decide +kernel
theorem d_Sheet_put_36 : decode prog_9_method_5_code 36 = .ok (.invokevirtual 70, 3) := by decide +kernel
theorem d_Sheet_put_39 : decode prog_9_method_5_code 39 = .ok (.iadd, 1) := by decide +kernel
theorem d_Sheet_put_40 : decode prog_9_method_5_code 40 = .ok (.iastore, 1) := by decide +kernel
theorem d_Sheet_put_41 : decode prog_9_method_5_code 41 = .ok (.return_, 1) := by decide +kernel
theorem d_Sheet_rowFor_0 : decode prog_9_method_3_code 0 = .ok (.aload_n 0, 1) := by decide +kernel
theorem d_Sheet_rowFor_1 : decode prog_9_method_3_code 1 = .ok (.getfield 9, 3) := by decide +kernel
theorem d_Sheet_rowFor_4 : decode prog_9_method_3_code 4 = .ok (.iload_n 1, 1) := by decide +kernel
theorem d_Sheet_rowFor_5 : decode prog_9_method_3_code 5 = .ok (.invokevirtual 70, 3) := by decide +kernel
theorem d_Sheet_rowFor_8 : decode prog_9_method_3_code 8 = .ok (.istore 4, 2) := by decide +kernel
theorem d_Sheet_rowFor_10 : decode prog_9_method_3_code 10 = .ok (.aload_n 0, 1) := by decide +kernel
theorem d_Sheet_rowFor_11 : decode prog_9_method_3_code 11 = .ok (.getfield 9, 3) := by decide +kernel
theorem d_Sheet_rowFor_14 : decode prog_9_method_3_code 14 = .ok (.iload_n 1, 1) := by decide +kernel
theorem d_Sheet_rowFor_15 : decode prog_9_method_3_code 15 = .ok (.invokevirtual 73, 3) := by decide +kernel
theorem d_Sheet_rowFor_18 : decode prog_9_method_3_code 18 = .ok (.istore 5, 2) := by decide +kernel
theorem d_Sheet_rowFor_20 : decode prog_9_method_3_code 20 = .ok (.iconst 0, 1) := by decide +kernel
theorem d_Sheet_rowFor_21 : decode prog_9_method_3_code 21 = .ok (.istore 6, 2) := by decide +kernel
theorem d_Sheet_rowFor_23 : decode prog_9_method_3_code 23 = .ok (.iload 6, 2) := by decide +kernel
theorem d_Sheet_rowFor_25 : decode prog_9_method_3_code 25 = .ok (.aload_n 0, 1) := by decide +kernel
theorem d_Sheet_rowFor_26 : decode prog_9_method_3_code 26 = .ok (.getfield 40, 3) := by decide +kernel
theorem d_Sheet_rowFor_29 : decode prog_9_method_3_code 29 = .ok (.if_icmp .ge 38, 3) := by decide +kernel
theorem d_Sheet_rowFor_32 : decode prog_9_method_3_code 32 = .ok (.aload_n 0, 1) := by decide +kernel
theorem d_Sheet_rowFor_33 : decode prog_9_method_3_code 33 = .ok (.getfield 37, 3) := by decide +kernel
theorem d_Sheet_rowFor_36 : decode prog_9_method_3_code 36 = .ok (.iload 6, 2) := by decide +kernel
theorem d_Sheet_rowFor_38 : decode prog_9_method_3_code 38 = .ok (.iaload, 1) := by decide +kernel
theorem d_Sheet_rowFor_39 : decode prog_9_method_3_code 39 = .ok (.iload 4, 2) := by decide +kernel
theorem d_Sheet_rowFor_41 : decode prog_9_method_3_code 41 = .ok (.iadd, 1) := by decide +kernel
theorem d_Sheet_rowFor_42 : decode prog_9_method_3_code 42 = .ok (.iload_n 2, 1) := by decide +kernel
theorem d_Sheet_rowFor_43 : decode prog_9_method_3_code 43 = .ok (.if_icmp .gt 18, 3) := by decide +kernel
theorem d_Sheet_rowFor_46 : decode prog_9_method_3_code 46 = .ok (.iload 5, 2) := by decide +kernel
theorem d_Sheet_rowFor_48 : decode prog_9_method_3_code 48 = .ok (.aload_n 0, 1) := by decide +kernel
theorem d_Sheet_rowFor_49 : decode prog_9_method_3_code 49 = .ok (.getfield 34, 3) := by decide +kernel
theorem d_Sheet_rowFor_52 : decode prog_9_method_3_code 52 = .ok (.iload 6, 2) := by decide +kernel
theorem d_Sheet_rowFor_54 : decode prog_9_method_3_code 54 = .ok (.iaload, 1) := by decide +kernel
theorem d_Sheet_rowFor_55 : decode prog_9_method_3_code 55 = .ok (.if_icmp .gt 6, 3) := by decide +kernel
theorem d_Sheet_rowFor_58 : decode prog_9_method_3_code 58 = .ok (.iload 6, 2) := by decide +kernel
theorem d_Sheet_rowFor_60 : decode prog_9_method_3_code 60 = .ok (.ireturn, 1) := by decide +kernel
theorem d_Sheet_rowFor_61 : decode prog_9_method_3_code 61 = .ok (.iinc 6 1, 3) := by decide +kernel
theorem d_Sheet_rowFor_64 : decode prog_9_method_3_code 64 = .ok (.goto (-41), 3) := by decide +kernel
theorem d_Sheet_rowFor_67 : decode prog_9_method_3_code 67 = .ok (.iload 4, 2) := by decide +kernel
theorem d_Sheet_rowFor_69 : decode prog_9_method_3_code 69 = .ok (.iload_n 2, 1) := by decide +kernel
theorem d_Sheet_rowFor_70 : decode prog_9_method_3_code 70 = .ok (.if_icmp .gt 23, 3) := by decide +kernel
theorem d_Sheet_rowFor_73 : decode prog_9_method_3_code 73 = .ok (.aload_n 0, 1) := by decide +kernel
theorem d_Sheet_rowFor_74 : decode prog_9_method_3_code 74 = .ok (.getfield 44, 3) := by decide +kernel
theorem d_Sheet_rowFor_77 : decode prog_9_method_3_code 77 = .ok (.iload 5, 2) := by decide +kernel
theorem d_Sheet_rowFor_79 : decode prog_9_method_3_code 79 = .ok (.iadd, 1) := by decide +kernel
theorem d_Sheet_rowFor_80 : decode prog_9_method_3_code 80 = .ok (.iload_n 3, 1) := by decide +kernel
theorem d_Sheet_rowFor_81 : decode prog_9_method_3_code 81 = .ok (.if_icmp .gt 12, 3) := by decide +kernel
theorem d_Sheet_rowFor_84 : decode prog_9_method_3_code 84 = .ok (.aload_n 0, 1) := by decide +kernel
theorem d_Sheet_rowFor_85 : decode prog_9_method_3_code 85 = .ok (.iload 5, 2) := by decide +kernel
theorem d_Sheet_rowFor_87 : decode prog_9_method_3_code 87 = .ok (.invokevirtual 76, 3) := by decide +kernel
theorem d_Sheet_rowFor_90 : decode prog_9_method_3_code 90 = .ok (.goto 4, 3) := by decide +kernel
theorem d_Sheet_rowFor_93 : decode prog_9_method_3_code 93 = .ok (.iconst (-1), 1) := by decide +kernel
theorem d_Sheet_rowFor_94 : decode prog_9_method_3_code 94 = .ok (.ireturn, 1) := by decide +kernel
theorem d_Sheet_xOf_0 : decode prog_9_method_6_code 0 = .ok (.aload_n 0, 1) := by decide +kernel
theorem d_Sheet_xOf_1 : decode prog_9_method_6_code 1 = .ok (.getfield 24, 3) := by decide +kernel
theorem d_Sheet_xOf_4 : decode prog_9_method_6_code 4 = .ok (.iload_n 1, 1) := by decide +kernel
theorem d_Sheet_xOf_5 : decode prog_9_method_6_code 5 = .ok (.iaload, 1) := by decide +kernel
theorem d_Sheet_xOf_6 : decode prog_9_method_6_code 6 = .ok (.ireturn, 1) := by decide +kernel
theorem d_Sheet_yOf_0 : decode prog_9_method_7_code 0 = .ok (.aload_n 0, 1) := by decide +kernel
theorem d_Sheet_yOf_1 : decode prog_9_method_7_code 1 = .ok (.getfield 28, 3) := by decide +kernel
theorem d_Sheet_yOf_4 : decode prog_9_method_7_code 4 = .ok (.iload_n 1, 1) := by decide +kernel
theorem d_Sheet_yOf_5 : decode prog_9_method_7_code 5 = .ok (.iaload, 1) := by decide +kernel
theorem d_Sheet_yOf_6 : decode prog_9_method_7_code 6 = .ok (.ireturn, 1) := by decide +kernel
theorem d_Tool_cover_0 : decode prog_10_method_2_code 0 = .ok (.iconst 0, 1) := by decide +kernel
theorem d_Tool_cover_1 : decode prog_10_method_2_code 1 = .ok (.istore_n 3, 1) := by decide +kernel
theorem d_Tool_cover_2 : decode prog_10_method_2_code 2 = .ok (.iload_n 3, 1) := by decide +kernel
theorem d_Tool_cover_3 : decode prog_10_method_2_code 3 = .ok (.aload_n 0, 1) := by decide +kernel
theorem d_Tool_cover_4 : decode prog_10_method_2_code 4 = .ok (.getfield 9, 3) := by decide +kernel
theorem d_Tool_cover_7 : decode prog_10_method_2_code 7 = .ok (.getfield 19, 3) := by decide +kernel
theorem d_Tool_cover_10 : decode prog_10_method_2_code 10 = .ok (.if_icmp .ge 16, 3) := by decide +kernel
theorem d_Tool_cover_13 : decode prog_10_method_2_code 13 = .ok (.aload_n 0, 1) := by decide +kernel
theorem d_Tool_cover_14 : decode prog_10_method_2_code 14 = .ok (.getfield 25, 3) := by decide +kernel
theorem d_Tool_cover_17 : decode prog_10_method_2_code 17 = .ok (.iload_n 3, 1) := by decide +kernel
theorem d_Tool_cover_18 : decode prog_10_method_2_code 18 = .ok (.iconst 0, 1) := by decide +kernel
theorem d_Tool_cover_19 : decode prog_10_method_2_code 19 = .ok (.bastore, 1) := by decide +kernel
theorem d_Tool_cover_20 : decode prog_10_method_2_code 20 = .ok (.iinc 3 1, 3) := by decide +kernel
theorem d_Tool_cover_23 : decode prog_10_method_2_code 23 = .ok (.goto (-21), 3) := by decide +kernel
theorem d_Tool_cover_26 : decode prog_10_method_2_code 26 = .ok (.aload_n 0, 1) := by decide +kernel
theorem d_Tool_cover_27 : decode prog_10_method_2_code 27 = .ok (.iconst 0, 1) := by decide +kernel
theorem d_Tool_cover_28 : decode prog_10_method_2_code 28 = .ok (.putfield 29, 3) := by decide +kernel
theorem d_Tool_cover_31 : decode prog_10_method_2_code 31 = .ok (.iload_n 2, 1) := by decide +kernel
theorem d_Tool_cover_32 : decode prog_10_method_2_code 32 = .ok (.istore_n 3, 1) := by decide +kernel
theorem d_Tool_cover_33 : decode prog_10_method_2_code 33 = .ok (.iload_n 3, 1) := by decide +kernel
theorem d_Tool_cover_34 : decode prog_10_method_2_code 34 = .ok (.aload_n 0, 1) := by decide +kernel
theorem d_Tool_cover_35 : decode prog_10_method_2_code 35 = .ok (.getfield 9, 3) := by decide +kernel
theorem d_Tool_cover_38 : decode prog_10_method_2_code 38 = .ok (.getfield 32, 3) := by decide +kernel
theorem d_Tool_cover_41 : decode prog_10_method_2_code 41 = .ok (.iload_n 2, 1) := by decide +kernel
theorem d_Tool_cover_42 : decode prog_10_method_2_code 42 = .ok (.isub, 1) := by decide +kernel
theorem d_Tool_cover_43 : decode prog_10_method_2_code 43 = .ok (.if_icmp .ge 52, 3) := by decide +kernel
theorem d_Tool_cover_46 : decode prog_10_method_2_code 46 = .ok (.iload_n 2, 1) := by decide +kernel
theorem d_Tool_cover_47 : decode prog_10_method_2_code 47 = .ok (.istore 4, 2) := by decide +kernel
theorem d_Tool_cover_49 : decode prog_10_method_2_code 49 = .ok (.iload 4, 2) := by decide +kernel
theorem d_Tool_cover_51 : decode prog_10_method_2_code 51 = .ok (.aload_n 0, 1) := by decide +kernel
theorem d_Tool_cover_52 : decode prog_10_method_2_code 52 = .ok (.getfield 9, 3) := by decide +kernel
theorem d_Tool_cover_55 : decode prog_10_method_2_code 55 = .ok (.getfield 35, 3) := by decide +kernel
theorem d_Tool_cover_58 : decode prog_10_method_2_code 58 = .ok (.iload_n 2, 1) := by decide +kernel
theorem d_Tool_cover_59 : decode prog_10_method_2_code 59 = .ok (.isub, 1) := by decide +kernel
theorem d_Tool_cover_60 : decode prog_10_method_2_code 60 = .ok (.if_icmp .ge 29, 3) := by decide +kernel
theorem d_Tool_cover_63 : decode prog_10_method_2_code 63 = .ok (.aload_n 0, 1) := by decide +kernel
theorem d_Tool_cover_64 : decode prog_10_method_2_code 64 = .ok (.iload_n 1, 1) := by decide +kernel
theorem d_Tool_cover_65 : decode prog_10_method_2_code 65 = .ok (.iload 4, 2) := by decide +kernel
theorem d_Tool_cover_67 : decode prog_10_method_2_code 67 = .ok (.iload_n 3, 1) := by decide +kernel
theorem d_Tool_cover_68 : decode prog_10_method_2_code 68 = .ok (.iload_n 2, 1) := by decide +kernel
theorem d_Tool_cover_69 : decode prog_10_method_2_code 69 = .ok (.invokevirtual 38, 3) := by decide +kernel
theorem d_Tool_cover_72 : decode prog_10_method_2_code 72 = .ok (.ifCond .eq 11, 3) := by decide +kernel
theorem d_Tool_cover_75 : decode prog_10_method_2_code 75 = .ok (.aload_n 0, 1) := by decide +kernel
theorem d_Tool_cover_76 : decode prog_10_method_2_code 76 = .ok (.iload 4, 2) := by decide +kernel
theorem d_Tool_cover_78 : decode prog_10_method_2_code 78 = .ok (.iload_n 3, 1) := by decide +kernel
theorem d_Tool_cover_79 : decode prog_10_method_2_code 79 = .ok (.iload_n 2, 1) := by decide +kernel
theorem d_Tool_cover_80 : decode prog_10_method_2_code 80 = .ok (.invokevirtual 42, 3) := by decide +kernel
theorem d_Tool_cover_83 : decode prog_10_method_2_code 83 = .ok (.iinc 4 1, 3) := by decide +kernel
theorem d_Tool_cover_86 : decode prog_10_method_2_code 86 = .ok (.goto (-37), 3) := by decide +kernel
theorem d_Tool_cover_89 : decode prog_10_method_2_code 89 = .ok (.iinc 3 1, 3) := by decide +kernel
theorem d_Tool_cover_92 : decode prog_10_method_2_code 92 = .ok (.goto (-59), 3) := by decide +kernel
theorem d_Tool_cover_95 : decode prog_10_method_2_code 95 = .ok (.return_, 1) := by decide +kernel
theorem d_Tool_covers_0 : decode prog_10_method_5_code 0 = .ok (.aload_n 0, 1) := by decide +kernel
theorem d_Tool_covers_1 : decode prog_10_method_5_code 1 = .ok (.getfield 9, 3) := by decide +kernel
theorem d_Tool_covers_4 : decode prog_10_method_5_code 4 = .ok (.iload_n 1, 1) := by decide +kernel
theorem d_Tool_covers_5 : decode prog_10_method_5_code 5 = .ok (.iload_n 2, 1) := by decide +kernel
theorem d_Tool_covers_6 : decode prog_10_method_5_code 6 = .ok (.invokevirtual 52, 3) := by decide +kernel
theorem d_Tool_covers_9 : decode prog_10_method_5_code 9 = .ok (.istore_n 3, 1) := by decide +kernel
theorem d_Tool_covers_10 : decode prog_10_method_5_code 10 = .ok (.iload_n 3, 1) := by decide +kernel
theorem d_Tool_covers_11 : decode prog_10_method_5_code 11 = .ok (.iconst (-1), 1) := by decide +kernel
theorem d_Tool_covers_12 : decode prog_10_method_5_code 12 = .ok (.if_icmp .eq 16, 3) := by decide +kernel
theorem d_Tool_covers_15 : decode prog_10_method_5_code 15 = .ok (.aload_n 0, 1) := by decide +kernel
theorem d_Tool_covers_16 : decode prog_10_method_5_code 16 = .ok (.getfield 25, 3) := by decide +kernel
theorem d_Tool_covers_19 : decode prog_10_method_5_code 19 = .ok (.iload_n 3, 1) := by decide +kernel
theorem d_Tool_covers_20 : decode prog_10_method_5_code 20 = .ok (.baload, 1) := by decide +kernel
theorem d_Tool_covers_21 : decode prog_10_method_5_code 21 = .ok (.ifCond .eq 7, 3) := by decide +kernel
theorem d_Tool_covers_24 : decode prog_10_method_5_code 24 = .ok (.iconst 1, 1) := by decide +kernel
theorem d_Tool_covers_25 : decode prog_10_method_5_code 25 = .ok (.goto 4, 3) := by decide +kernel
theorem d_Tool_covers_28 : decode prog_10_method_5_code 28 = .ok (.iconst 0, 1) := by decide +kernel
theorem d_Tool_covers_29 : decode prog_10_method_5_code 29 = .ok (.ireturn, 1) := by decide +kernel
theorem d_Tool_fits_0 : decode prog_10_method_3_code 0 = .ok (.iload_n 3, 1) := by decide +kernel
theorem d_Tool_fits_1 : decode prog_10_method_3_code 1 = .ok (.iload 4, 2) := by decide +kernel
theorem d_Tool_fits_3 : decode prog_10_method_3_code 3 = .ok (.isub, 1) := by decide +kernel
