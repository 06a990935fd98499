theorem d_Grid_rowOf_6 : decode prog_4_method_4_code 6 = .ok (.ireturn, 1) := by decide +kernel
theorem d_Highest_compare_0 : decode prog_5_method_2_code 0 = .ok (.aload_n 0, 1) := by decide +kernel
theorem d_Highest_compare_1 : decode prog_5_method_2_code 1 = .ok (.getfield 7, 3) := by decide +kernel
theorem d_Highest_compare_4 : decode prog_5_method_2_code 4 = .ok (.iload_n 1, 1) := by decide +kernel
theorem d_Highest_compare_5 : decode prog_5_method_2_code 5 = .ok (.invokevirtual 13, 3) := by decide +kernel
theorem d_Highest_compare_8 : decode prog_5_method_2_code 8 = .ok (.aload_n 0, 1) := by decide +kernel
theorem d_Highest_compare_9 : decode prog_5_method_2_code 9 = .ok (.getfield 7, 3) := by decide +kernel
theorem d_Highest_compare_12 : decode prog_5_method_2_code 12 = .ok (.iload_n 2, 1) := by decide +kernel
theorem d_Highest_compare_13 : decode prog_5_method_2_code 13 = .ok (.invokevirtual 13, 3) := by decide +kernel
theorem d_Highest_compare_16 : decode prog_5_method_2_code 16 = .ok (.if_icmp .eq 23, 3) := by decide +kernel
theorem d_Highest_compare_19 : decode prog_5_method_2_code 19 = .ok (.aload_n 0, 1) := by decide +kernel
theorem d_Highest_compare_20 : decode prog_5_method_2_code 20 = .ok (.getfield 7, 3) := by decide +kernel
theorem d_Highest_compare_23 : decode prog_5_method_2_code 23 = .ok (.iload_n 2, 1) := by decide +kernel
theorem d_Highest_compare_24 : decode prog_5_method_2_code 24 = .ok (.invokevirtual 13, 3) := by decide +kernel
theorem d_Highest_compare_27 : decode prog_5_method_2_code 27 = .ok (.aload_n 0, 1) := by decide +kernel
theorem d_Highest_compare_28 : decode prog_5_method_2_code 28 = .ok (.getfield 7, 3) := by decide +kernel
theorem d_Highest_compare_31 : decode prog_5_method_2_code 31 = .ok (.iload_n 1, 1) := by decide +kernel
theorem d_Highest_compare_32 : decode prog_5_method_2_code 32 = .ok (.invokevirtual 13, 3) := by decide +kernel
theorem d_Highest_compare_35 : decode prog_5_method_2_code 35 = .ok (.invokestatic 19, 3) := by decide +kernel
theorem d_Highest_compare_38 : decode prog_5_method_2_code 38 = .ok (.ireturn, 1) := by decide +kernel
theorem d_Highest_compare_39 : decode prog_5_method_2_code 39 = .ok (.aload_n 0, 1) := by decide +kernel
theorem d_Highest_compare_40 : decode prog_5_method_2_code 40 = .ok (.getfield 7, 3) := by decide +kernel
theorem d_Highest_compare_43 : decode prog_5_method_2_code 43 = .ok (.iload_n 2, 1) := by decide +kernel
theorem d_Highest_compare_44 : decode prog_5_method_2_code 44 = .ok (.invokevirtual 25, 3) := by decide +kernel
theorem d_Highest_compare_47 : decode prog_5_method_2_code 47 = .ok (.aload_n 0, 1) := by decide +kernel
theorem d_Highest_compare_48 : decode prog_5_method_2_code 48 = .ok (.getfield 7, 3) := by decide +kernel
theorem d_Highest_compare_51 : decode prog_5_method_2_code 51 = .ok (.iload_n 1, 1) := by decide +kernel
theorem d_Highest_compare_52 : decode prog_5_method_2_code 52 = .ok (.invokevirtual 25, 3) := by decide +kernel
theorem d_Highest_compare_55 : decode prog_5_method_2_code 55 = .ok (.invokestatic 19, 3) := by decide +kernel
theorem d_Highest_compare_58 : decode prog_5_method_2_code 58 = .ok (.ireturn, 1) := by decide +kernel
theorem d_Laying_compare_0 : decode prog_6_method_2_code 0 = .ok (.aload_n 0, 1) := by decide +kernel
theorem d_Laying_compare_1 : decode prog_6_method_2_code 1 = .ok (.getfield 7, 3) := by decide +kernel
theorem d_Laying_compare_4 : decode prog_6_method_2_code 4 = .ok (.iload_n 1, 1) := by decide +kernel
theorem d_Laying_compare_5 : decode prog_6_method_2_code 5 = .ok (.invokevirtual 13, 3) := by decide +kernel
theorem d_Laying_compare_8 : decode prog_6_method_2_code 8 = .ok (.aload_n 0, 1) := by decide +kernel
theorem d_Laying_compare_9 : decode prog_6_method_2_code 9 = .ok (.getfield 7, 3) := by decide +kernel
theorem d_Laying_compare_12 : decode prog_6_method_2_code 12 = .ok (.iload_n 2, 1) := by decide +kernel
theorem d_Laying_compare_13 : decode prog_6_method_2_code 13 = .ok (.invokevirtual 13, 3) := by decide +kernel
theorem d_Laying_compare_16 : decode prog_6_method_2_code 16 = .ok (.if_icmp .eq 20, 3) := by decide +kernel
theorem d_Laying_compare_19 : decode prog_6_method_2_code 19 = .ok (.aload_n 0, 1) := by decide +kernel
theorem d_Laying_compare_20 : decode prog_6_method_2_code 20 = .ok (.getfield 7, 3) := by decide +kernel
theorem d_Laying_compare_23 : decode prog_6_method_2_code 23 = .ok (.iload_n 2, 1) := by decide +kernel
theorem d_Laying_compare_24 : decode prog_6_method_2_code 24 = .ok (.invokevirtual 13, 3) := by decide +kernel
theorem d_Laying_compare_27 : decode prog_6_method_2_code 27 = .ok (.ifCond .eq 7, 3) := by decide +kernel
theorem d_Laying_compare_30 : decode prog_6_method_2_code 30 = .ok (.iconst (-1), 1) := by decide +kernel
theorem d_Laying_compare_31 : decode prog_6_method_2_code 31 = .ok (.goto 4, 3) := by decide +kernel
theorem d_Laying_compare_34 : decode prog_6_method_2_code 34 = .ok (.iconst 1, 1) := by decide +kernel
theorem d_Laying_compare_35 : decode prog_6_method_2_code 35 = .ok (.ireturn, 1) := by decide +kernel
theorem d_Laying_compare_36 : decode prog_6_method_2_code 36 = .ok (.aload_n 0, 1) := by decide +kernel
theorem d_Laying_compare_37 : decode prog_6_method_2_code 37 = .ok (.getfield 7, 3) := by decide +kernel
theorem d_Laying_compare_40 : decode prog_6_method_2_code 40 = .ok (.iload_n 2, 1) := by decide +kernel
theorem d_Laying_compare_41 : decode prog_6_method_2_code 41 = .ok (.invokevirtual 19, 3) := by decide +kernel
theorem d_Laying_compare_44 : decode prog_6_method_2_code 44 = .ok (.aload_n 0, 1) := by decide +kernel
theorem d_Laying_compare_45 : decode prog_6_method_2_code 45 = .ok (.getfield 7, 3) := by decide +kernel
theorem d_Laying_compare_48 : decode prog_6_method_2_code 48 = .ok (.iload_n 1, 1) := by decide +kernel
theorem d_Laying_compare_49 : decode prog_6_method_2_code 49 = .ok (.invokevirtual 19, 3) := by decide +kernel
theorem d_Laying_compare_52 : decode prog_6_method_2_code 52 = .ok (.invokestatic 23, 3) := by decide +kernel
theorem d_Laying_compare_55 : decode prog_6_method_2_code 55 = .ok (.ireturn, 1) := by decide +kernel
theorem d_Pieces_begin_0 : decode prog_7_method_6_code 0 = .ok (.aload_n 0, 1) := by decide +kernel
theorem d_Pieces_begin_1 : decode prog_7_method_6_code 1 = .ok (.getfield 34, 3) := by decide +kernel
theorem d_Pieces_begin_4 : decode prog_7_method_6_code 4 = .ok (.iload_n 2, 1) := by decide +kernel
theorem d_Pieces_begin_5 : decode prog_7_method_6_code 5 = .ok (.iload_n 1, 1) := by decide +kernel
theorem d_Pieces_begin_6 : decode prog_7_method_6_code 6 = .ok (.iastore, 1) := by decide +kernel
theorem d_Pieces_begin_7 : decode prog_7_method_6_code 7 = .ok (.aload_n 0, 1) := by decide +kernel
theorem d_Pieces_begin_8 : decode prog_7_method_6_code 8 = .ok (.getfield 37, 3) := by decide +kernel
theorem d_Pieces_begin_11 : decode prog_7_method_6_code 11 = .ok (.iload_n 2, 1) := by decide +kernel
theorem d_Pieces_begin_12 : decode prog_7_method_6_code 12 = .ok (.iconst 0, 1) := by decide +kernel
theorem d_Pieces_begin_13 : decode prog_7_method_6_code 13 = .ok (.iastore, 1) := by decide +kernel
theorem d_Pieces_begin_14 : decode prog_7_method_6_code 14 = .ok (.aload_n 0, 1) := by decide +kernel
theorem d_Pieces_begin_15 : decode prog_7_method_6_code 15 = .ok (.getfield 40, 3) := by decide +kernel
theorem d_Pieces_begin_18 : decode prog_7_method_6_code 18 = .ok (.iload_n 2, 1) := by decide +kernel
theorem d_Pieces_begin_19 : decode prog_7_method_6_code 19 = .ok (.aload_n 0, 1) := by decide +kernel
theorem d_Pieces_begin_20 : decode prog_7_method_6_code 20 = .ok (.getfield 9, 3) := by decide +kernel
theorem d_Pieces_begin_23 : decode prog_7_method_6_code 23 = .ok (.iload_n 1, 1) := by decide +kernel
theorem d_Pieces_begin_24 : decode prog_7_method_6_code 24 = .ok (.invokevirtual 89, 3) := by decide +kernel
theorem d_Pieces_begin_27 : decode prog_7_method_6_code 27 = .ok (.iastore, 1) := by decide +kernel
theorem d_Pieces_begin_28 : decode prog_7_method_6_code 28 = .ok (.aload_n 0, 1) := by decide +kernel
theorem d_Pieces_begin_29 : decode prog_7_method_6_code 29 = .ok (.getfield 43, 3) := by decide +kernel
theorem d_Pieces_begin_32 : decode prog_7_method_6_code 32 = .ok (.iload_n 2, 1) := by decide +kernel
theorem d_Pieces_begin_33 : decode prog_7_method_6_code 33 = .ok (.aload_n 0, 1) := by decide +kernel
theorem d_Pieces_begin_34 : decode prog_7_method_6_code 34 = .ok (.getfield 9, 3) := by decide +kernel
theorem d_Pieces_begin_37 : decode prog_7_method_6_code 37 = .ok (.iload_n 1, 1) := by decide +kernel
theorem d_Pieces_begin_38 : decode prog_7_method_6_code 38 = .ok (.invokevirtual 89, 3) := by decide +kernel
theorem d_Pieces_begin_41 : decode prog_7_method_6_code 41 = .ok (.iastore, 1) := by decide +kernel
theorem d_Pieces_begin_42 : decode prog_7_method_6_code 42 = .ok (.aload_n 0, 1) := by decide +kernel
theorem d_Pieces_begin_43 : decode prog_7_method_6_code 43 = .ok (.getfield 46, 3) := by decide +kernel
theorem d_Pieces_begin_46 : decode prog_7_method_6_code 46 = .ok (.iload_n 2, 1) := by decide +kernel
theorem d_Pieces_begin_47 : decode prog_7_method_6_code 47 = .ok (.aload_n 0, 1) := by decide +kernel
theorem d_Pieces_begin_48 : decode prog_7_method_6_code 48 = .ok (.getfield 9, 3) := by decide +kernel
theorem d_Pieces_begin_51 : decode prog_7_method_6_code 51 = .ok (.iload_n 1, 1) := by decide +kernel
theorem d_Pieces_begin_52 : decode prog_7_method_6_code 52 = .ok (.invokevirtual 93, 3) := by decide +kernel
theorem d_Pieces_begin_55 : decode prog_7_method_6_code 55 = .ok (.iastore, 1) := by decide +kernel
theorem d_Pieces_begin_56 : decode prog_7_method_6_code 56 = .ok (.return_, 1) := by decide +kernel
theorem d_Pieces_closestTo_0 : decode prog_7_method_10_code 0 = .ok (.aload_n 0, 1) := by decide +kernel
theorem d_Pieces_closestTo_1 : decode prog_7_method_10_code 1 = .ok (.iload_n 1, 1) := by decide +kernel
theorem d_Pieces_closestTo_2 : decode prog_7_method_10_code 2 = .ok (.invokevirtual 114, 3) := by decide +kernel
theorem d_Pieces_closestTo_5 : decode prog_7_method_10_code 5 = .ok (.iconst 0, 1) := by decide +kernel
theorem d_Pieces_closestTo_6 : decode prog_7_method_10_code 6 = .ok (.istore_n 2, 1) := by decide +kernel
theorem d_Pieces_closestTo_7 : decode prog_7_method_10_code 7 = .ok (.iconst 1, 1) := by decide +kernel
theorem d_Pieces_closestTo_8 : decode prog_7_method_10_code 8 = .ok (.istore_n 3, 1) := by decide +kernel
theorem d_Pieces_closestTo_9 : decode prog_7_method_10_code 9 = .ok (.iload_n 3, 1) := by decide +kernel
theorem d_Pieces_closestTo_10 : decode prog_7_method_10_code 10 = .ok (.aload_n 0, 1) := by decide +kernel
theorem d_Pieces_closestTo_11 : decode prog_7_method_10_code 11 = .ok (.getfield 49, 3) := by decide +kernel
theorem d_Pieces_closestTo_14 : decode prog_7_method_10_code 14 = .ok (.if_icmp .ge 26, 3) := by decide +kernel
theorem d_Pieces_closestTo_17 : decode prog_7_method_10_code 17 = .ok (.aload_n 0, 1) := by decide +kernel
theorem d_Pieces_closestTo_18 : decode prog_7_method_10_code 18 = .ok (.getfield 31, 3) := by decide +kernel
theorem d_Pieces_closestTo_21 : decode prog_7_method_10_code 21 = .ok (.iload_n 3, 1) := by decide +kernel
theorem d_Pieces_closestTo_22 : decode prog_7_method_10_code 22 = .ok (.iaload, 1) := by decide +kernel
theorem d_Pieces_closestTo_23 : decode prog_7_method_10_code 23 = .ok (.aload_n 0, 1) := by decide +kernel
theorem d_Pieces_closestTo_24 : decode prog_7_method_10_code 24 = .ok (.getfield 31, 3) := by decide +kernel
theorem d_Pieces_closestTo_27 : decode prog_7_method_10_code 27 = .ok (.iload_n 2, 1) := by decide +kernel
theorem d_Pieces_closestTo_28 : decode prog_7_method_10_code 28 = .ok (.iaload, 1) := by decide +kernel
theorem d_Pieces_closestTo_29 : decode prog_7_method_10_code 29 = .ok (.if_icmp .le 5, 3) := by decide +kernel
theorem d_Pieces_closestTo_32 : decode prog_7_method_10_code 32 = .ok (.iload_n 3, 1) := by decide +kernel
theorem d_Pieces_closestTo_33 : decode prog_7_method_10_code 33 = .ok (.istore_n 2, 1) := by decide +kernel
theorem d_Pieces_closestTo_34 : decode prog_7_method_10_code 34 = .ok (.iinc 3 1, 3) := by decide +kernel
theorem d_Pieces_closestTo_37 : decode prog_7_method_10_code 37 = .ok (.goto (-28), 3) := by decide +kernel
theorem d_Pieces_closestTo_40 : decode prog_7_method_10_code 40 = .ok (.iload_n 2, 1) := by decide +kernel
theorem d_Pieces_closestTo_41 : decode prog_7_method_10_code 41 = .ok (.ireturn, 1) := by decide +kernel
theorem d_Pieces_columnsOf_0 : decode prog_7_method_20_code 0 = .ok (.aload_n 0, 1) := by decide +kernel
theorem d_Pieces_columnsOf_1 : decode prog_7_method_20_code 1 = .ok (.getfield 43, 3) := by decide +kernel
theorem d_Pieces_columnsOf_4 : decode prog_7_method_20_code 4 = .ok (.iload_n 1, 1) := by decide +kernel
theorem d_Pieces_columnsOf_5 : decode prog_7_method_20_code 5 = .ok (.iaload, 1) := by decide +kernel
theorem d_Pieces_columnsOf_6 : decode prog_7_method_20_code 6 = .ok (.aload_n 0, 1) := by decide +kernel
theorem d_Pieces_columnsOf_7 : decode prog_7_method_20_code 7 = .ok (.getfield 40, 3) := by decide +kernel
theorem d_Pieces_columnsOf_10 : decode prog_7_method_20_code 10 = .ok (.iload_n 1, 1) := by decide +kernel
theorem d_Pieces_columnsOf_11 : decode prog_7_method_20_code 11 = .ok (.iaload, 1) := by decide +kernel
theorem d_Pieces_columnsOf_12 : decode prog_7_method_20_code 12 = .ok (.isub, 1) := by decide +kernel
theorem d_Pieces_columnsOf_13 : decode prog_7_method_20_code 13 = .ok (.iconst 1, 1) := by decide +kernel
theorem d_Pieces_columnsOf_14 : decode prog_7_method_20_code 14 = .ok (.iadd, 1) := by decide +kernel
theorem d_Pieces_columnsOf_15 : decode prog_7_method_20_code 15 = .ok (.ireturn, 1) := by decide +kernel
theorem d_Pieces_countSidesAt_0 : decode prog_7_method_12_code 0 = .ok (.iconst 0, 1) := by decide +kernel
theorem d_Pieces_countSidesAt_1 : decode prog_7_method_12_code 1 = .ok (.istore_n 2, 1) := by decide +kernel
theorem d_Pieces_countSidesAt_2 : decode prog_7_method_12_code 2 = .ok (.iload_n 2, 1) := by decide +kernel
theorem d_Pieces_countSidesAt_3 : decode prog_7_method_12_code 3 = .ok (.iconst 4, 1) := by decide +kernel
theorem d_Pieces_countSidesAt_4 : decode prog_7_method_12_code 4 = .ok (.if_icmp .ge 54, 3) := by decide +kernel
theorem d_Pieces_countSidesAt_7 : decode prog_7_method_12_code 7 = .ok (.aload_n 0, 1) := by decide +kernel
theorem d_Pieces_countSidesAt_8 : decode prog_7_method_12_code 8 = .ok (.getfield 9, 3) := by decide +kernel
theorem d_Pieces_countSidesAt_11 : decode prog_7_method_12_code 11 = .ok (.iload_n 1, 1) := by decide +kernel
theorem d_Pieces_countSidesAt_12 : decode prog_7_method_12_code 12 = .ok (.iload_n 2, 1) := by decide +kernel
theorem d_Pieces_countSidesAt_13 : decode prog_7_method_12_code 13 = .ok (.invokevirtual 85, 3) := by decide +kernel
theorem d_Pieces_countSidesAt_16 : decode prog_7_method_12_code 16 = .ok (.istore_n 3, 1) := by decide +kernel
theorem d_Pieces_countSidesAt_17 : decode prog_7_method_12_code 17 = .ok (.iload_n 3, 1) := by decide +kernel
theorem d_Pieces_countSidesAt_18 : decode prog_7_method_12_code 18 = .ok (.iconst (-1), 1) := by decide +kernel
theorem d_Pieces_countSidesAt_19 : decode prog_7_method_12_code 19 = .ok (.if_icmp .eq 33, 3) := by decide +kernel
theorem d_Pieces_countSidesAt_22 : decode prog_7_method_12_code 22 = .ok (.aload_n 0, 1) := by decide +kernel
theorem d_Pieces_countSidesAt_23 : decode prog_7_method_12_code 23 = .ok (.getfield 25, 3) := by decide +kernel
theorem d_Pieces_countSidesAt_26 : decode prog_7_method_12_code 26 = .ok (.iload_n 3, 1) := by decide +kernel
theorem d_Pieces_countSidesAt_27 : decode prog_7_method_12_code 27 = .ok (.iaload, 1) := by decide +kernel
theorem d_Pieces_countSidesAt_28 : decode prog_7_method_12_code 28 = .ok (.aload_n 0, 1) := by decide +kernel
theorem d_Pieces_countSidesAt_29 : decode prog_7_method_12_code 29 = .ok (.getfield 25, 3) := by decide +kernel
theorem d_Pieces_countSidesAt_32 : decode prog_7_method_12_code 32 = .ok (.iload_n 1, 1) := by decide +kernel
theorem d_Pieces_countSidesAt_33 : decode prog_7_method_12_code 33 = .ok (.iaload, 1) := by decide +kernel
theorem d_Pieces_countSidesAt_34 : decode prog_7_method_12_code 34 = .ok (.if_icmp .eq 18, 3) := by decide +kernel
theorem d_Pieces_countSidesAt_37 : decode prog_7_method_12_code 37 = .ok (.aload_n 0, 1) := by decide +kernel
theorem d_Pieces_countSidesAt_38 : decode prog_7_method_12_code 38 = .ok (.getfield 31, 3) := by decide +kernel
theorem d_Pieces_countSidesAt_41 : decode prog_7_method_12_code 41 = .ok (.aload_n 0, 1) := by decide +kernel
theorem d_Pieces_countSidesAt_42 : decode prog_7_method_12_code 42 = .ok (.getfield 25, 3) := by decide +kernel
theorem d_Pieces_countSidesAt_45 : decode prog_7_method_12_code 45 = .ok (.iload_n 3, 1) := by decide +kernel
theorem d_Pieces_countSidesAt_46 : decode prog_7_method_12_code 46 = .ok (.iaload, 1) := by decide +kernel
theorem d_Pieces_countSidesAt_47 : decode prog_7_method_12_code 47 = .ok (.dup2, 1) := by decide +kernel
theorem d_Pieces_countSidesAt_48 : decode prog_7_method_12_code 48 = .ok (.iaload, 1) := by decide +kernel
theorem d_Pieces_countSidesAt_49 : decode prog_7_method_12_code 49 = .ok (.iconst 1, 1) := by decide +kernel
theorem d_Pieces_countSidesAt_50 : decode prog_7_method_12_code 50 = .ok (.iadd, 1) := by decide +kernel
theorem d_Pieces_countSidesAt_51 : decode prog_7_method_12_code 51 = .ok (.iastore, 1) := by decide +kernel
theorem d_Pieces_countSidesAt_52 : decode prog_7_method_12_code 52 = .ok (.iinc 2 1, 3) := by decide +kernel
theorem d_Pieces_countSidesAt_55 : decode prog_7_method_12_code 55 = .ok (.goto (-53), 3) := by decide +kernel
theorem d_Pieces_countSidesAt_58 : decode prog_7_method_12_code 58 = .ok (.return_, 1) := by decide +kernel
theorem d_Pieces_countSidesOf_0 : decode prog_7_method_11_code 0 = .ok (.aload_n 0, 1) := by decide +kernel
theorem d_Pieces_countSidesOf_1 : decode prog_7_method_11_code 1 = .ok (.getfield 31, 3) := by decide +kernel
theorem d_Pieces_countSidesOf_4 : decode prog_7_method_11_code 4 = .ok (.iconst 0, 1) := by decide +kernel
theorem d_Pieces_countSidesOf_5 : decode prog_7_method_11_code 5 = .ok (.invokestatic 69, 3) := by decide +kernel
theorem d_Pieces_countSidesOf_8 : decode prog_7_method_11_code 8 = .ok (.iconst 0, 1) := by decide +kernel
theorem d_Pieces_countSidesOf_9 : decode prog_7_method_11_code 9 = .ok (.istore_n 2, 1) := by decide +kernel
theorem d_Pieces_countSidesOf_10 : decode prog_7_method_11_code 10 = .ok (.iload_n 2, 1) := by decide +kernel
theorem d_Pieces_countSidesOf_11 : decode prog_7_method_11_code 11 = .ok (.aload_n 0, 1) := by decide +kernel
theorem d_Pieces_countSidesOf_12 : decode prog_7_method_11_code 12 = .ok (.getfield 9, 3) := by decide +kernel
theorem d_Pieces_countSidesOf_15 : decode prog_7_method_11_code 15 = .ok (.getfield 15, 3) := by decide +kernel
theorem d_Pieces_countSidesOf_18 : decode prog_7_method_11_code 18 = .ok (.if_icmp .ge 24, 3) := by decide +kernel
theorem d_Pieces_countSidesOf_21 : decode prog_7_method_11_code 21 = .ok (.aload_n 0, 1) := by decide +kernel
theorem d_Pieces_countSidesOf_22 : decode prog_7_method_11_code 22 = .ok (.getfield 25, 3) := by decide +kernel
theorem d_Pieces_countSidesOf_25 : decode prog_7_method_11_code 25 = .ok (.iload_n 2, 1) := by decide +kernel
theorem d_Pieces_countSidesOf_26 : decode prog_7_method_11_code 26 = .ok (.iaload, 1) := by decide +kernel
theorem d_Pieces_countSidesOf_27 : decode prog_7_method_11_code 27 = .ok (.iload_n 1, 1) := by decide +kernel
theorem d_Pieces_countSidesOf_28 : decode prog_7_method_11_code 28 = .ok (.if_icmp .ne 8, 3) := by decide +kernel
theorem d_Pieces_countSidesOf_31 : decode prog_7_method_11_code 31 = .ok (.aload_n 0, 1) := by decide +kernel
theorem d_Pieces_countSidesOf_32 : decode prog_7_method_11_code 32 = .ok (.iload_n 2, 1) := by decide +kernel
theorem d_Pieces_countSidesOf_33 : decode prog_7_method_11_code 33 = .ok (.invokevirtual 118, 3) := by decide +kernel
theorem d_Pieces_countSidesOf_36 : decode prog_7_method_11_code 36 = .ok (.iinc 2 1, 3) := by decide +kernel
theorem d_Pieces_countSidesOf_39 : decode prog_7_method_11_code 39 = .ok (.goto (-29), 3) := by decide +kernel
theorem d_Pieces_countSidesOf_42 : decode prog_7_method_11_code 42 = .ok (.return_, 1) := by decide +kernel
theorem d_Pieces_firstXOf_0 : decode prog_7_method_17_code 0 = .ok (.aload_n 0, 1) := by decide +kernel
theorem d_Pieces_firstXOf_1 : decode prog_7_method_17_code 1 = .ok (.getfield 9, 3) := by decide +kernel
theorem d_Pieces_firstXOf_4 : decode prog_7_method_17_code 4 = .ok (.aload_n 0, 1) := by decide +kernel
theorem d_Pieces_firstXOf_5 : decode prog_7_method_17_code 5 = .ok (.getfield 34, 3) := by decide +kernel
theorem d_Pieces_firstXOf_8 : decode prog_7_method_17_code 8 = .ok (.iload_n 1, 1) := by decide +kernel
theorem d_Pieces_firstXOf_9 : decode prog_7_method_17_code 9 = .ok (.iaload, 1) := by decide +kernel
theorem d_Pieces_firstXOf_10 : decode prog_7_method_17_code 10 = .ok (.invokevirtual 89, 3) := by decide +kernel
theorem d_Pieces_firstXOf_13 : decode prog_7_method_17_code 13 = .ok (.ireturn, 1) := by decide +kernel
theorem d_Pieces_gather_0 : decode prog_7_method_5_code 0 = .ok (.aload_n 0, 1) := by decide +kernel
theorem d_Pieces_gather_1 : decode prog_7_method_5_code 1 = .ok (.iload_n 1, 1) := by decide +kernel
theorem d_Pieces_gather_2 : decode prog_7_method_5_code 2 = .ok (.iload_n 2, 1) := by decide +kernel
theorem d_Pieces_gather_3 : decode prog_7_method_5_code 3 = .ok (.invokevirtual 79, 3) := by decide +kernel
theorem d_Pieces_gather_6 : decode prog_7_method_5_code 6 = .ok (.aload_n 0, 1) := by decide +kernel
theorem d_Pieces_gather_7 : decode prog_7_method_5_code 7 = .ok (.getfield 25, 3) := by decide +kernel
theorem d_Pieces_gather_10 : decode prog_7_method_5_code 10 = .ok (.iload_n 1, 1) := by decide +kernel
theorem d_Pieces_gather_11 : decode prog_7_method_5_code 11 = .ok (.iload_n 2, 1) := by decide +kernel
theorem d_Pieces_gather_12 : decode prog_7_method_5_code 12 = .ok (.iastore, 1) := by decide +kernel
theorem d_Pieces_gather_13 : decode prog_7_method_5_code 13 = .ok (.aload_n 0, 1) := by decide +kernel
theorem d_Pieces_gather_14 : decode prog_7_method_5_code 14 = .ok (.getfield 28, 3) := by decide +kernel
theorem d_Pieces_gather_17 : decode prog_7_method_5_code 17 = .ok (.iconst 0, 1) := by decide +kernel
theorem d_Pieces_gather_18 : decode prog_7_method_5_code 18 = .ok (.iload_n 1, 1) := by decide +kernel
theorem d_Pieces_gather_19 : decode prog_7_method_5_code 19 = .ok (.iastore, 1) := by decide +kernel
theorem d_Pieces_gather_20 : decode prog_7_method_5_code 20 = .ok (.iconst 1, 1) := by decide +kernel
theorem d_Pieces_gather_21 : decode prog_7_method_5_code 21 = .ok (.istore_n 3, 1) := by decide +kernel
theorem d_Pieces_gather_22 : decode prog_7_method_5_code 22 = .ok (.iconst 0, 1) := by decide +kernel
theorem d_Pieces_gather_23 : decode prog_7_method_5_code 23 = .ok (.istore 4, 2) := by decide +kernel
theorem d_Pieces_gather_25 : decode prog_7_method_5_code 25 = .ok (.iload 4, 2) := by decide +kernel
theorem d_Pieces_gather_27 : decode prog_7_method_5_code 27 = .ok (.iload_n 3, 1) := by decide +kernel
theorem d_Pieces_gather_28 : decode prog_7_method_5_code 28 = .ok (.if_icmp .ge 128, 3) := by decide +kernel
theorem d_Pieces_gather_31 : decode prog_7_method_5_code 31 = .ok (.iload 4, 2) := by decide +kernel
theorem d_Pieces_gather_33 : decode prog_7_method_5_code 33 = .ok (.aload_n 0, 1) := by decide +kernel
theorem d_Pieces_gather_34 : decode prog_7_method_5_code 34 = .ok (.getfield 9, 3) := by decide +kernel
theorem d_Pieces_gather_37 : decode prog_7_method_5_code 37 = .ok (.getfield 15, 3) := by decide +kernel
theorem d_Pieces_gather_40 : decode prog_7_method_5_code 40 = .ok (.if_icmp .ge 116, 3) := by decide +kernel
theorem d_Pieces_gather_43 : decode prog_7_method_5_code 43 = .ok (.aload_n 0, 1) := by decide +kernel
theorem d_Pieces_gather_44 : decode prog_7_method_5_code 44 = .ok (.getfield 28, 3) := by decide +kernel
theorem d_Pieces_gather_47 : decode prog_7_method_5_code 47 = .ok (.iload 4, 2) := by decide +kernel
theorem d_Pieces_gather_49 : decode prog_7_method_5_code 49 = .ok (.iaload, 1) := by decide +kernel
theorem d_Pieces_gather_50 : decode prog_7_method_5_code 50 = .ok (.istore 5, 2) := by decide +kernel
theorem d_Pieces_gather_52 : decode prog_7_method_5_code 52 = .ok (.aload_n 0, 1) := by decide +kernel
theorem d_Pieces_gather_53 : decode prog_7_method_5_code 53 = .ok (.iload 5, 2) := by decide +kernel
theorem d_Pieces_gather_55 : decode prog_7_method_5_code 55 = .ok (.iload_n 2, 1) := by decide +kernel
theorem d_Pieces_gather_56 : decode prog_7_method_5_code 56 = .ok (.invokevirtual 82, 3) := by decide +kernel
theorem d_Pieces_gather_59 : decode prog_7_method_5_code 59 = .ok (.iconst 0, 1) := by decide +kernel
theorem d_Pieces_gather_60 : decode prog_7_method_5_code 60 = .ok (.istore 6, 2) := by decide +kernel
theorem d_Pieces_gather_62 : decode prog_7_method_5_code 62 = .ok (.iload 6, 2) := by decide +kernel
theorem d_Pieces_gather_64 : decode prog_7_method_5_code 64 = .ok (.iconst 4, 1) := by decide +kernel
theorem d_Pieces_gather_65 : decode prog_7_method_5_code 65 = .ok (.if_icmp .ge 85, 3) := by decide +kernel
theorem d_Pieces_gather_68 : decode prog_7_method_5_code 68 = .ok (.aload_n 0, 1) := by decide +kernel
theorem d_Pieces_gather_69 : decode prog_7_method_5_code 69 = .ok (.getfield 9, 3) := by decide +kernel
theorem d_Pieces_gather_72 : decode prog_7_method_5_code 72 = .ok (.iload 5, 2) := by decide +kernel
theorem d_Pieces_gather_74 : decode prog_7_method_5_code 74 = .ok (.iload 6, 2) := by decide +kernel
theorem d_Pieces_gather_76 : decode prog_7_method_5_code 76 = .ok (.invokevirtual 85, 3) := by decide +kernel
theorem d_Pieces_gather_79 : decode prog_7_method_5_code 79 = .ok (.istore 7, 2) := by decide +kernel
theorem d_Pieces_gather_81 : decode prog_7_method_5_code 81 = .ok (.iload 7, 2) := by decide +kernel
theorem d_Pieces_gather_83 : decode prog_7_method_5_code 83 = .ok (.iconst (-1), 1) := by decide +kernel
theorem d_Pieces_gather_84 : decode prog_7_method_5_code 84 = .ok (.if_icmp .eq 60, 3) := by decide +kernel
theorem d_Pieces_gather_87 : decode prog_7_method_5_code 87 = .ok (.aload_n 0, 1) := by decide +kernel
theorem d_Pieces_gather_88 : decode prog_7_method_5_code 88 = .ok (.getfield 25, 3) := by decide +kernel
theorem d_Pieces_gather_91 : decode prog_7_method_5_code 91 = .ok (.iload 7, 2) := by decide +kernel
theorem d_Pieces_gather_93 : decode prog_7_method_5_code 93 = .ok (.iaload, 1) := by decide +kernel
theorem d_Pieces_gather_94 : decode prog_7_method_5_code 94 = .ok (.iconst (-1), 1) := by decide +kernel
theorem d_Pieces_gather_95 : decode prog_7_method_5_code 95 = .ok (.if_icmp .ne 49, 3) := by decide +kernel
theorem d_Pieces_gather_98 : decode prog_7_method_5_code 98 = .ok (.aload_n 0, 1) := by decide +kernel
theorem d_Pieces_gather_99 : decode prog_7_method_5_code 99 = .ok (.getfield 21, 3) := by decide +kernel
theorem d_Pieces_gather_102 : decode prog_7_method_5_code 102 = .ok (.iload 7, 2) := by decide +kernel
theorem d_Pieces_gather_104 : decode prog_7_method_5_code 104 = .ok (.iaload, 1) := by decide +kernel
theorem d_Pieces_gather_105 : decode prog_7_method_5_code 105 = .ok (.aload_n 0, 1) := by decide +kernel
theorem d_Pieces_gather_106 : decode prog_7_method_5_code 106 = .ok (.getfield 21, 3) := by decide +kernel
theorem d_Pieces_gather_109 : decode prog_7_method_5_code 109 = .ok (.iload_n 1, 1) := by decide +kernel
theorem d_Pieces_gather_110 : decode prog_7_method_5_code 110 = .ok (.iaload, 1) := by decide +kernel
theorem d_Pieces_gather_111 : decode prog_7_method_5_code 111 = .ok (.if_icmp .ne 33, 3) := by decide +kernel
theorem d_Pieces_gather_114 : decode prog_7_method_5_code 114 = .ok (.iload_n 3, 1) := by decide +kernel
theorem d_Pieces_gather_115 : decode prog_7_method_5_code 115 = .ok (.aload_n 0, 1) := by decide +kernel
theorem d_Pieces_gather_116 : decode prog_7_method_5_code 116 = .ok (.getfield 9, 3) := by decide +kernel
theorem d_Pieces_gather_119 : decode prog_7_method_5_code 119 = .ok (.getfield 15, 3) := by decide +kernel
theorem d_Pieces_gather_122 : decode prog_7_method_5_code 122 = .ok (.if_icmp .ge 22, 3) := by decide +kernel
theorem d_Pieces_gather_125 : decode prog_7_method_5_code 125 = .ok (.aload_n 0, 1) := by decide +kernel
theorem d_Pieces_gather_126 : decode prog_7_method_5_code 126 = .ok (.getfield 25, 3) := by decide +kernel
theorem d_Pieces_gather_129 : decode prog_7_method_5_code 129 = .ok (.iload 7, 2) := by decide +kernel
theorem d_Pieces_gather_131 : decode prog_7_method_5_code 131 = .ok (.iload_n 2, 1) := by decide +kernel
theorem d_Pieces_gather_132 : decode prog_7_method_5_code 132 = .ok (.iastore, 1) := by decide +kernel
theorem d_Pieces_gather_133 : decode prog_7_method_5_code 133 = .ok (.aload_n 0, 1) := by decide +kernel
theorem d_Pieces_gather_134 : decode prog_7_method_5_code 134 = .ok (.getfield 28, 3) := by decide +kernel
theorem d_Pieces_gather_137 : decode prog_7_method_5_code 137 = .ok (.iload_n 3, 1) := by decide +kernel
theorem d_Pieces_gather_138 : decode prog_7_method_5_code 138 = .ok (.iload 7, 2) := by decide +kernel
theorem d_Pieces_gather_140 : decode prog_7_method_5_code 140 = .ok (.iastore, 1) := by decide +kernel
theorem d_Pieces_gather_141 : decode prog_7_method_5_code 141 = .ok (.iinc 3 1, 3) := by decide +kernel
theorem d_Pieces_gather_144 : decode prog_7_method_5_code 144 = .ok (.iinc 6 1, 3) := by decide +kernel
theorem d_Pieces_gather_147 : decode prog_7_method_5_code 147 = .ok (.goto (-85), 3) := by decide +kernel
theorem d_Pieces_gather_150 : decode prog_7_method_5_code 150 = .ok (.iinc 4 1, 3) := by decide +kernel
theorem d_Pieces_gather_153 : decode prog_7_method_5_code 153 = .ok (.goto (-128), 3) := by decide +kernel
theorem d_Pieces_gather_156 : decode prog_7_method_5_code 156 = .ok (.return_, 1) := by decide +kernel
theorem d_Pieces_gatherAll_0 : decode prog_7_method_4_code 0 = .ok (.aload_n 0, 1) := by decide +kernel
theorem d_Pieces_gatherAll_1 : decode prog_7_method_4_code 1 = .ok (.getfield 25, 3) := by decide +kernel
theorem d_Pieces_gatherAll_4 : decode prog_7_method_4_code 4 = .ok (.iconst (-1), 1) := by decide +kernel
theorem d_Pieces_gatherAll_5 : decode prog_7_method_4_code 5 = .ok (.invokestatic 69, 3) := by decide +kernel
theorem d_Pieces_gatherAll_8 : decode prog_7_method_4_code 8 = .ok (.aload_n 0, 1) := by decide +kernel
theorem d_Pieces_gatherAll_9 : decode prog_7_method_4_code 9 = .ok (.iconst 0, 1) := by decide +kernel
theorem d_Pieces_gatherAll_10 : decode prog_7_method_4_code 10 = .ok (.putfield 49, 3) := by decide +kernel
theorem d_Pieces_gatherAll_13 : decode prog_7_method_4_code 13 = .ok (.iconst 0, 1) := by decide +kernel
theorem d_Pieces_gatherAll_14 : decode prog_7_method_4_code 14 = .ok (.istore_n 1, 1) := by decide +kernel
theorem d_Pieces_gatherAll_15 : decode prog_7_method_4_code 15 = .ok (.iload_n 1, 1) := by decide +kernel
theorem d_Pieces_gatherAll_16 : decode prog_7_method_4_code 16 = .ok (.aload_n 0, 1) := by decide +kernel
theorem d_Pieces_gatherAll_17 : decode prog_7_method_4_code 17 = .ok (.getfield 9, 3) := by decide +kernel
theorem d_Pieces_gatherAll_20 : decode prog_7_method_4_code 20 = .ok (.getfield 15, 3) := by decide +kernel
theorem d_Pieces_gatherAll_23 : decode prog_7_method_4_code 23 = .ok (.if_icmp .ge 38, 3) := by decide +kernel
theorem d_Pieces_gatherAll_26 : decode prog_7_method_4_code 26 = .ok (.aload_n 0, 1) := by decide +kernel
theorem d_Pieces_gatherAll_27 : decode prog_7_method_4_code 27 = .ok (.getfield 25, 3) := by decide +kernel
