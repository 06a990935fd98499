theorem d_Model_ahead_0 : decode prog_13_method_24_code 0 = .ok (.iload 4, 2) := by decide +kernel
theorem d_Model_ahead_2 : decode prog_13_method_24_code 2 = .ok (.iconst 2, 1) := by decide +kernel
theorem d_Model_ahead_3 : decode prog_13_method_24_code 3 = .ok (.if_icmp .eq 25, 3) := by decide +kernel
theorem d_Model_ahead_6 : decode prog_13_method_24_code 6 = .ok (.iload 4, 2) := by decide +kernel
theorem d_Model_ahead_8 : decode prog_13_method_24_code 8 = .ok (.iconst 1, 1) := by decide +kernel
theorem d_Model_ahead_9 : decode prog_13_method_24_code 9 = .ok (.if_icmp .ne 8, 3) := by decide +kernel
theorem d_Model_ahead_12 : decode prog_13_method_24_code 12 = .ok (.iload 5, 2) := by decide +kernel
theorem d_Model_ahead_14 : decode prog_13_method_24_code 14 = .ok (.ifCond .ne 14, 3) := by decide +kernel
theorem d_Model_ahead_17 : decode prog_13_method_24_code 17 = .ok (.iload 4, 2) := by decide +kernel
theorem d_Model_ahead_19 : decode prog_13_method_24_code 19 = .ok (.iconst 3, 1) := by decide +kernel
theorem d_Model_ahead_20 : decode prog_13_method_24_code 20 = .ok (.if_icmp .ne 12, 3) := by decide +kernel
theorem d_Model_ahead_23 : decode prog_13_method_24_code 23 = .ok (.iload 5, 2) := by decide +kernel
theorem d_Model_ahead_25 : decode prog_13_method_24_code 25 = .ok (.ifCond .ne 7, 3) := by decide +kernel
theorem d_Model_ahead_28 : decode prog_13_method_24_code 28 = .ok (.iconst 1, 1) := by decide +kernel
theorem d_Model_ahead_29 : decode prog_13_method_24_code 29 = .ok (.goto 4, 3) := by decide +kernel
theorem d_Model_ahead_32 : decode prog_13_method_24_code 32 = .ok (.iconst 0, 1) := by decide +kernel
theorem d_Model_ahead_33 : decode prog_13_method_24_code 33 = .ok (.istore 6, 2) := by decide +kernel
theorem d_Model_ahead_35 : decode prog_13_method_24_code 35 = .ok (.iload 4, 2) := by decide +kernel
theorem d_Model_ahead_37 : decode prog_13_method_24_code 37 = .ok (.iconst 3, 1) := by decide +kernel
theorem d_Model_ahead_38 : decode prog_13_method_24_code 38 = .ok (.if_icmp .eq 24, 3) := by decide +kernel
theorem d_Model_ahead_41 : decode prog_13_method_24_code 41 = .ok (.iload 4, 2) := by decide +kernel
theorem d_Model_ahead_43 : decode prog_13_method_24_code 43 = .ok (.iconst 2, 1) := by decide +kernel
theorem d_Model_ahead_44 : decode prog_13_method_24_code 44 = .ok (.if_icmp .ne 8, 3) := by decide +kernel
theorem d_Model_ahead_47 : decode prog_13_method_24_code 47 = .ok (.iload 5, 2) := by decide +kernel
theorem d_Model_ahead_49 : decode prog_13_method_24_code 49 = .ok (.ifCond .ne 13, 3) := by decide +kernel
theorem d_Model_ahead_52 : decode prog_13_method_24_code 52 = .ok (.iload 4, 2) := by decide +kernel
theorem d_Model_ahead_54 : decode prog_13_method_24_code 54 = .ok (.ifCond .ne 12, 3) := by decide +kernel
theorem d_Model_ahead_57 : decode prog_13_method_24_code 57 = .ok (.iload 5, 2) := by decide +kernel
theorem d_Model_ahead_59 : decode prog_13_method_24_code 59 = .ok (.ifCond .ne 7, 3) := by decide +kernel
theorem d_Model_ahead_62 : decode prog_13_method_24_code 62 = .ok (.iconst 1, 1) := by decide +kernel
theorem d_Model_ahead_63 : decode prog_13_method_24_code 63 = .ok (.goto 4, 3) := by decide +kernel
theorem d_Model_ahead_66 : decode prog_13_method_24_code 66 = .ok (.iconst 0, 1) := by decide +kernel
theorem d_Model_ahead_67 : decode prog_13_method_24_code 67 = .ok (.istore 7, 2) := by decide +kernel
theorem d_Model_ahead_69 : decode prog_13_method_24_code 69 = .ok (.aload_n 0, 1) := by decide +kernel
theorem d_Model_ahead_70 : decode prog_13_method_24_code 70 = .ok (.iload_n 1, 1) := by decide +kernel
theorem d_Model_ahead_71 : decode prog_13_method_24_code 71 = .ok (.iload 6, 2) := by decide +kernel
theorem d_Model_ahead_73 : decode prog_13_method_24_code 73 = .ok (.ifCond .eq 9, 3) := by decide +kernel
theorem d_Model_ahead_76 : decode prog_13_method_24_code 76 = .ok (.iload_n 2, 1) := by decide +kernel
theorem d_Model_ahead_77 : decode prog_13_method_24_code 77 = .ok (.iconst 1, 1) := by decide +kernel
theorem d_Model_ahead_78 : decode prog_13_method_24_code 78 = .ok (.isub, 1) := by decide +kernel
theorem d_Model_ahead_79 : decode prog_13_method_24_code 79 = .ok (.goto 4, 3) := by decide +kernel
theorem d_Model_ahead_82 : decode prog_13_method_24_code 82 = .ok (.iload_n 2, 1) := by decide +kernel
theorem d_Model_ahead_83 : decode prog_13_method_24_code 83 = .ok (.iload 7, 2) := by decide +kernel
theorem d_Model_ahead_85 : decode prog_13_method_24_code 85 = .ok (.ifCond .eq 9, 3) := by decide +kernel
theorem d_Model_ahead_88 : decode prog_13_method_24_code 88 = .ok (.iload_n 3, 1) := by decide +kernel
theorem d_Model_ahead_89 : decode prog_13_method_24_code 89 = .ok (.iconst 1, 1) := by decide +kernel
theorem d_Model_ahead_90 : decode prog_13_method_24_code 90 = .ok (.isub, 1) := by decide +kernel
theorem d_Model_ahead_91 : decode prog_13_method_24_code 91 = .ok (.goto 4, 3) := by decide +kernel
theorem d_Model_ahead_94 : decode prog_13_method_24_code 94 = .ok (.iload_n 3, 1) := by decide +kernel
theorem d_Model_ahead_95 : decode prog_13_method_24_code 95 = .ok (.invokevirtual 122, 3) := by decide +kernel
theorem d_Model_ahead_98 : decode prog_13_method_24_code 98 = .ok (.ireturn, 1) := by decide +kernel
theorem d_Model_apart_0 : decode prog_13_method_8_code 0 = .ok (.iconst 0, 1) := by decide +kernel
theorem d_Model_apart_1 : decode prog_13_method_8_code 1 = .ok (.istore_n 3, 1) := by decide +kernel
theorem d_Model_apart_2 : decode prog_13_method_8_code 2 = .ok (.iconst 0, 1) := by decide +kernel
theorem d_Model_apart_3 : decode prog_13_method_8_code 3 = .ok (.istore 4, 2) := by decide +kernel
theorem d_Model_apart_5 : decode prog_13_method_8_code 5 = .ok (.iload 4, 2) := by decide +kernel
theorem d_Model_apart_7 : decode prog_13_method_8_code 7 = .ok (.iconst 3, 1) := by decide +kernel
theorem d_Model_apart_8 : decode prog_13_method_8_code 8 = .ok (.if_icmp .ge 50, 3) := by decide +kernel
theorem d_Model_apart_11 : decode prog_13_method_8_code 11 = .ok (.aload_n 0, 1) := by decide +kernel
theorem d_Model_apart_12 : decode prog_13_method_8_code 12 = .ok (.getfield 7, 3) := by decide +kernel
theorem d_Model_apart_15 : decode prog_13_method_8_code 15 = .ok (.iconst 3, 1) := by decide +kernel
theorem d_Model_apart_16 : decode prog_13_method_8_code 16 = .ok (.iload_n 1, 1) := by decide +kernel
theorem d_Model_apart_17 : decode prog_13_method_8_code 17 = .ok (.imul, 1) := by decide +kernel
theorem d_Model_apart_18 : decode prog_13_method_8_code 18 = .ok (.iload 4, 2) := by decide +kernel
theorem d_Model_apart_20 : decode prog_13_method_8_code 20 = .ok (.iadd, 1) := by decide +kernel
theorem d_Model_apart_21 : decode prog_13_method_8_code 21 = .ok (.iaload, 1) := by decide +kernel
theorem d_Model_apart_22 : decode prog_13_method_8_code 22 = .ok (.aload_n 0, 1) := by decide +kernel
theorem d_Model_apart_23 : decode prog_13_method_8_code 23 = .ok (.getfield 13, 3) := by decide +kernel
theorem d_Model_apart_26 : decode prog_13_method_8_code 26 = .ok (.iconst 3, 1) := by decide +kernel
theorem d_Model_apart_27 : decode prog_13_method_8_code 27 = .ok (.iload_n 2, 1) := by decide +kernel
theorem d_Model_apart_28 : decode prog_13_method_8_code 28 = .ok (.imul, 1) := by decide +kernel
theorem d_Model_apart_29 : decode prog_13_method_8_code 29 = .ok (.iload 4, 2) := by decide +kernel
theorem d_Model_apart_31 : decode prog_13_method_8_code 31 = .ok (.iadd, 1) := by decide +kernel
theorem d_Model_apart_32 : decode prog_13_method_8_code 32 = .ok (.iaload, 1) := by decide +kernel
theorem d_Model_apart_33 : decode prog_13_method_8_code 33 = .ok (.isub, 1) := by decide +kernel
theorem d_Model_apart_34 : decode prog_13_method_8_code 34 = .ok (.istore 5, 2) := by decide +kernel
theorem d_Model_apart_36 : decode prog_13_method_8_code 36 = .ok (.iload_n 3, 1) := by decide +kernel
theorem d_Model_apart_37 : decode prog_13_method_8_code 37 = .ok (.iload 5, 2) := by decide +kernel
theorem d_Model_apart_39 : decode prog_13_method_8_code 39 = .ok (.ifCond .ge 9, 3) := by decide +kernel
theorem d_Model_apart_42 : decode prog_13_method_8_code 42 = .ok (.iload 5, 2) := by decide +kernel
theorem d_Model_apart_44 : decode prog_13_method_8_code 44 = .ok (.ineg, 1) := by decide +kernel
theorem d_Model_apart_45 : decode prog_13_method_8_code 45 = .ok (.goto 5, 3) := by decide +kernel
theorem d_Model_apart_48 : decode prog_13_method_8_code 48 = .ok (.iload 5, 2) := by decide +kernel
theorem d_Model_apart_50 : decode prog_13_method_8_code 50 = .ok (.iadd, 1) := by decide +kernel
theorem d_Model_apart_51 : decode prog_13_method_8_code 51 = .ok (.istore_n 3, 1) := by decide +kernel
theorem d_Model_apart_52 : decode prog_13_method_8_code 52 = .ok (.iinc 4 1, 3) := by decide +kernel
theorem d_Model_apart_55 : decode prog_13_method_8_code 55 = .ok (.goto (-50), 3) := by decide +kernel
theorem d_Model_apart_58 : decode prog_13_method_8_code 58 = .ok (.iload_n 3, 1) := by decide +kernel
theorem d_Model_apart_59 : decode prog_13_method_8_code 59 = .ok (.ireturn, 1) := by decide +kernel
theorem d_Model_at_0 : decode prog_13_method_37_code 0 = .ok (.aload_n 0, 1) := by decide +kernel
theorem d_Model_at_1 : decode prog_13_method_37_code 1 = .ok (.aload_n 0, 1) := by decide +kernel
theorem d_Model_at_2 : decode prog_13_method_37_code 2 = .ok (.getfield 77, 3) := by decide +kernel
theorem d_Model_at_5 : decode prog_13_method_37_code 5 = .ok (.ifCond .eq 10, 3) := by decide +kernel
theorem d_Model_at_8 : decode prog_13_method_37_code 8 = .ok (.aload_n 0, 1) := by decide +kernel
theorem d_Model_at_9 : decode prog_13_method_37_code 9 = .ok (.getfield 107, 3) := by decide +kernel
theorem d_Model_at_12 : decode prog_13_method_37_code 12 = .ok (.ifCond .ne 7, 3) := by decide +kernel
theorem d_Model_at_15 : decode prog_13_method_37_code 15 = .ok (.iconst 1, 1) := by decide +kernel
theorem d_Model_at_16 : decode prog_13_method_37_code 16 = .ok (.goto 29, 3) := by decide +kernel
theorem d_Model_at_19 : decode prog_13_method_37_code 19 = .ok (.iload_n 1, 1) := by decide +kernel
theorem d_Model_at_20 : decode prog_13_method_37_code 20 = .ok (.ifCond .lt 20, 3) := by decide +kernel
theorem d_Model_at_23 : decode prog_13_method_37_code 23 = .ok (.iload_n 1, 1) := by decide +kernel
theorem d_Model_at_24 : decode prog_13_method_37_code 24 = .ok (.aload_n 0, 1) := by decide +kernel
theorem d_Model_at_25 : decode prog_13_method_37_code 25 = .ok (.getfield 90, 3) := by decide +kernel
theorem d_Model_at_28 : decode prog_13_method_37_code 28 = .ok (.if_icmp .ge 12, 3) := by decide +kernel
theorem d_Model_at_31 : decode prog_13_method_37_code 31 = .ok (.iload_n 2, 1) := by decide +kernel
theorem d_Model_at_32 : decode prog_13_method_37_code 32 = .ok (.ifCond .lt 8, 3) := by decide +kernel
theorem d_Model_at_35 : decode prog_13_method_37_code 35 = .ok (.iload_n 2, 1) := by decide +kernel
theorem d_Model_at_36 : decode prog_13_method_37_code 36 = .ok (.iconst 1, 1) := by decide +kernel
theorem d_Model_at_37 : decode prog_13_method_37_code 37 = .ok (.if_icmp .le 7, 3) := by decide +kernel
theorem d_Model_at_40 : decode prog_13_method_37_code 40 = .ok (.iconst 2, 1) := by decide +kernel
theorem d_Model_at_41 : decode prog_13_method_37_code 41 = .ok (.goto 4, 3) := by decide +kernel
theorem d_Model_at_44 : decode prog_13_method_37_code 44 = .ok (.iconst 0, 1) := by decide +kernel
theorem d_Model_at_45 : decode prog_13_method_37_code 45 = .ok (.putfield 66, 3) := by decide +kernel
theorem d_Model_at_48 : decode prog_13_method_37_code 48 = .ok (.aload_n 0, 1) := by decide +kernel
theorem d_Model_at_49 : decode prog_13_method_37_code 49 = .ok (.getfield 66, 3) := by decide +kernel
theorem d_Model_at_52 : decode prog_13_method_37_code 52 = .ok (.ifCond .le 7, 3) := by decide +kernel
theorem d_Model_at_55 : decode prog_13_method_37_code 55 = .ok (.iconst 0, 1) := by decide +kernel
theorem d_Model_at_56 : decode prog_13_method_37_code 56 = .ok (.goto 22, 3) := by decide +kernel
theorem d_Model_at_59 : decode prog_13_method_37_code 59 = .ok (.iload_n 2, 1) := by decide +kernel
theorem d_Model_at_60 : decode prog_13_method_37_code 60 = .ok (.ifCond .ne 12, 3) := by decide +kernel
theorem d_Model_at_63 : decode prog_13_method_37_code 63 = .ok (.aload_n 0, 1) := by decide +kernel
theorem d_Model_at_64 : decode prog_13_method_37_code 64 = .ok (.getfield 37, 3) := by decide +kernel
theorem d_Model_at_67 : decode prog_13_method_37_code 67 = .ok (.iload_n 1, 1) := by decide +kernel
theorem d_Model_at_68 : decode prog_13_method_37_code 68 = .ok (.iaload, 1) := by decide +kernel
theorem d_Model_at_69 : decode prog_13_method_37_code 69 = .ok (.goto 9, 3) := by decide +kernel
theorem d_Model_at_72 : decode prog_13_method_37_code 72 = .ok (.aload_n 0, 1) := by decide +kernel
theorem d_Model_at_73 : decode prog_13_method_37_code 73 = .ok (.getfield 40, 3) := by decide +kernel
theorem d_Model_at_76 : decode prog_13_method_37_code 76 = .ok (.iload_n 1, 1) := by decide +kernel
theorem d_Model_at_77 : decode prog_13_method_37_code 77 = .ok (.iaload, 1) := by decide +kernel
theorem d_Model_at_78 : decode prog_13_method_37_code 78 = .ok (.ireturn, 1) := by decide +kernel
theorem d_Model_beside_0 : decode prog_13_method_10_code 0 = .ok (.iload_n 1, 1) := by decide +kernel
theorem d_Model_beside_1 : decode prog_13_method_10_code 1 = .ok (.aload_n 0, 1) := by decide +kernel
theorem d_Model_beside_2 : decode prog_13_method_10_code 2 = .ok (.getfield 56, 3) := by decide +kernel
theorem d_Model_beside_5 : decode prog_13_method_10_code 5 = .ok (.irem, 1) := by decide +kernel
theorem d_Model_beside_6 : decode prog_13_method_10_code 6 = .ok (.iload_n 2, 1) := by decide +kernel
theorem d_Model_beside_7 : decode prog_13_method_10_code 7 = .ok (.ifCond .ne 7, 3) := by decide +kernel
theorem d_Model_beside_10 : decode prog_13_method_10_code 10 = .ok (.iconst 1, 1) := by decide +kernel
theorem d_Model_beside_11 : decode prog_13_method_10_code 11 = .ok (.goto 13, 3) := by decide +kernel
theorem d_Model_beside_14 : decode prog_13_method_10_code 14 = .ok (.iload_n 2, 1) := by decide +kernel
theorem d_Model_beside_15 : decode prog_13_method_10_code 15 = .ok (.iconst 2, 1) := by decide +kernel
theorem d_Model_beside_16 : decode prog_13_method_10_code 16 = .ok (.if_icmp .ne 7, 3) := by decide +kernel
theorem d_Model_beside_19 : decode prog_13_method_10_code 19 = .ok (.iconst (-1), 1) := by decide +kernel
theorem d_Model_beside_20 : decode prog_13_method_10_code 20 = .ok (.goto 4, 3) := by decide +kernel
theorem d_Model_beside_23 : decode prog_13_method_10_code 23 = .ok (.iconst 0, 1) := by decide +kernel
theorem d_Model_beside_24 : decode prog_13_method_10_code 24 = .ok (.iadd, 1) := by decide +kernel
theorem d_Model_beside_25 : decode prog_13_method_10_code 25 = .ok (.istore_n 3, 1) := by decide +kernel
theorem d_Model_beside_26 : decode prog_13_method_10_code 26 = .ok (.iload_n 1, 1) := by decide +kernel
theorem d_Model_beside_27 : decode prog_13_method_10_code 27 = .ok (.aload_n 0, 1) := by decide +kernel
theorem d_Model_beside_28 : decode prog_13_method_10_code 28 = .ok (.getfield 56, 3) := by decide +kernel
theorem d_Model_beside_31 : decode prog_13_method_10_code 31 = .ok (.idiv, 1) := by decide +kernel
theorem d_Model_beside_32 : decode prog_13_method_10_code 32 = .ok (.iload_n 2, 1) := by decide +kernel
theorem d_Model_beside_33 : decode prog_13_method_10_code 33 = .ok (.iconst 1, 1) := by decide +kernel
theorem d_Model_beside_34 : decode prog_13_method_10_code 34 = .ok (.if_icmp .ne 7, 3) := by decide +kernel
theorem d_Model_beside_37 : decode prog_13_method_10_code 37 = .ok (.iconst 1, 1) := by decide +kernel
theorem d_Model_beside_38 : decode prog_13_method_10_code 38 = .ok (.goto 13, 3) := by decide +kernel
theorem d_Model_beside_41 : decode prog_13_method_10_code 41 = .ok (.iload_n 2, 1) := by decide +kernel
theorem d_Model_beside_42 : decode prog_13_method_10_code 42 = .ok (.iconst 3, 1) := by decide +kernel
theorem d_Model_beside_43 : decode prog_13_method_10_code 43 = .ok (.if_icmp .ne 7, 3) := by decide +kernel
theorem d_Model_beside_46 : decode prog_13_method_10_code 46 = .ok (.iconst (-1), 1) := by decide +kernel
theorem d_Model_beside_47 : decode prog_13_method_10_code 47 = .ok (.goto 4, 3) := by decide +kernel
theorem d_Model_beside_50 : decode prog_13_method_10_code 50 = .ok (.iconst 0, 1) := by decide +kernel
theorem d_Model_beside_51 : decode prog_13_method_10_code 51 = .ok (.iadd, 1) := by decide +kernel
theorem d_Model_beside_52 : decode prog_13_method_10_code 52 = .ok (.istore 4, 2) := by decide +kernel
theorem d_Model_beside_54 : decode prog_13_method_10_code 54 = .ok (.aload_n 0, 1) := by decide +kernel
theorem d_Model_beside_55 : decode prog_13_method_10_code 55 = .ok (.iload_n 3, 1) := by decide +kernel
theorem d_Model_beside_56 : decode prog_13_method_10_code 56 = .ok (.iload 4, 2) := by decide +kernel
theorem d_Model_beside_58 : decode prog_13_method_10_code 58 = .ok (.invokevirtual 69, 3) := by decide +kernel
theorem d_Model_beside_61 : decode prog_13_method_10_code 61 = .ok (.ifCond .eq 15, 3) := by decide +kernel
theorem d_Model_beside_64 : decode prog_13_method_10_code 64 = .ok (.aload_n 0, 1) := by decide +kernel
theorem d_Model_beside_65 : decode prog_13_method_10_code 65 = .ok (.getfield 56, 3) := by decide +kernel
theorem d_Model_beside_68 : decode prog_13_method_10_code 68 = .ok (.iload 4, 2) := by decide +kernel
theorem d_Model_beside_70 : decode prog_13_method_10_code 70 = .ok (.imul, 1) := by decide +kernel
theorem d_Model_beside_71 : decode prog_13_method_10_code 71 = .ok (.iload_n 3, 1) := by decide +kernel
theorem d_Model_beside_72 : decode prog_13_method_10_code 72 = .ok (.iadd, 1) := by decide +kernel
theorem d_Model_beside_73 : decode prog_13_method_10_code 73 = .ok (.goto 4, 3) := by decide +kernel
theorem d_Model_beside_76 : decode prog_13_method_10_code 76 = .ok (.iconst (-1), 1) := by decide +kernel
theorem d_Model_beside_77 : decode prog_13_method_10_code 77 = .ok (.ireturn, 1) := by decide +kernel
theorem d_Model_border_0 : decode prog_13_method_39_code 0 = .ok (.iload_n 1, 1) := by decide +kernel
theorem d_Model_border_1 : decode prog_13_method_39_code 1 = .ok (.iconst 1, 1) := by decide +kernel
theorem d_Model_border_2 : decode prog_13_method_39_code 2 = .ok (.if_icmp .lt 24, 3) := by decide +kernel
theorem d_Model_border_5 : decode prog_13_method_39_code 5 = .ok (.iload_n 1, 1) := by decide +kernel
theorem d_Model_border_6 : decode prog_13_method_39_code 6 = .ok (.ldc 155, 2) := by decide +kernel
theorem d_Model_border_8 : decode prog_13_method_39_code 8 = .ok (.if_icmp .gt 18, 3) := by decide +kernel
theorem d_Model_border_11 : decode prog_13_method_39_code 11 = .ok (.iload_n 2, 1) := by decide +kernel
theorem d_Model_border_12 : decode prog_13_method_39_code 12 = .ok (.iconst 1, 1) := by decide +kernel
theorem d_Model_border_13 : decode prog_13_method_39_code 13 = .ok (.if_icmp .lt 13, 3) := by decide +kernel
theorem d_Model_border_16 : decode prog_13_method_39_code 16 = .ok (.iload_n 2, 1) := by decide +kernel
theorem d_Model_border_17 : decode prog_13_method_39_code 17 = .ok (.ldc 155, 2) := by decide +kernel
theorem d_Model_border_19 : decode prog_13_method_39_code 19 = .ok (.if_icmp .gt 7, 3) := by decide +kernel
theorem d_Model_border_22 : decode prog_13_method_39_code 22 = .ok (.iconst 1, 1) := by decide +kernel
theorem d_Model_border_23 : decode prog_13_method_39_code 23 = .ok (.goto 4, 3) := by decide +kernel
theorem d_Model_border_26 : decode prog_13_method_39_code 26 = .ok (.iconst 0, 1) := by decide +kernel
theorem d_Model_border_27 : decode prog_13_method_39_code 27 = .ok (.istore 4, 2) := by decide +kernel
theorem d_Model_border_29 : decode prog_13_method_39_code 29 = .ok (.aload_n 0, 1) := by decide +kernel
theorem d_Model_border_30 : decode prog_13_method_39_code 30 = .ok (.iload_n 3, 1) := by decide +kernel
theorem d_Model_border_31 : decode prog_13_method_39_code 31 = .ok (.ifCond .lt 8, 3) := by decide +kernel
theorem d_Model_border_34 : decode prog_13_method_39_code 34 = .ok (.iload_n 3, 1) := by decide +kernel
theorem d_Model_border_35 : decode prog_13_method_39_code 35 = .ok (.iconst 2, 1) := by decide +kernel
theorem d_Model_border_36 : decode prog_13_method_39_code 36 = .ok (.if_icmp .le 7, 3) := by decide +kernel
theorem d_Model_border_39 : decode prog_13_method_39_code 39 = .ok (.iconst 1, 1) := by decide +kernel
theorem d_Model_border_40 : decode prog_13_method_39_code 40 = .ok (.goto 13, 3) := by decide +kernel
theorem d_Model_border_43 : decode prog_13_method_39_code 43 = .ok (.iload 4, 2) := by decide +kernel
theorem d_Model_border_45 : decode prog_13_method_39_code 45 = .ok (.ifCond .eq 7, 3) := by decide +kernel
theorem d_Model_border_48 : decode prog_13_method_39_code 48 = .ok (.iconst 0, 1) := by decide +kernel
theorem d_Model_border_49 : decode prog_13_method_39_code 49 = .ok (.goto 4, 3) := by decide +kernel
theorem d_Model_border_52 : decode prog_13_method_39_code 52 = .ok (.iconst 2, 1) := by decide +kernel
theorem d_Model_border_53 : decode prog_13_method_39_code 53 = .ok (.putfield 66, 3) := by decide +kernel
theorem d_Model_border_56 : decode prog_13_method_39_code 56 = .ok (.aload_n 0, 1) := by decide +kernel
theorem d_Model_border_57 : decode prog_13_method_39_code 57 = .ok (.getfield 66, 3) := by decide +kernel
theorem d_Model_border_60 : decode prog_13_method_39_code 60 = .ok (.ifCond .le 5, 3) := by decide +kernel
theorem d_Model_border_63 : decode prog_13_method_39_code 63 = .ok (.iconst 0, 1) := by decide +kernel
theorem d_Model_border_64 : decode prog_13_method_39_code 64 = .ok (.ireturn, 1) := by decide +kernel
theorem d_Model_border_65 : decode prog_13_method_39_code 65 = .ok (.iload_n 1, 1) := by decide +kernel
theorem d_Model_border_66 : decode prog_13_method_39_code 66 = .ok (.iload_n 2, 1) := by decide +kernel
theorem d_Model_border_67 : decode prog_13_method_39_code 67 = .ok (.idiv, 1) := by decide +kernel
theorem d_Model_border_68 : decode prog_13_method_39_code 68 = .ok (.istore 5, 2) := by decide +kernel
theorem d_Model_border_70 : decode prog_13_method_39_code 70 = .ok (.iload 5, 2) := by decide +kernel
theorem d_Model_border_72 : decode prog_13_method_39_code 72 = .ok (.ifCond .ne 7, 3) := by decide +kernel
theorem d_Model_border_75 : decode prog_13_method_39_code 75 = .ok (.iconst 0, 1) := by decide +kernel
theorem d_Model_border_76 : decode prog_13_method_39_code 76 = .ok (.goto 6, 3) := by decide +kernel
theorem d_Model_border_79 : decode prog_13_method_39_code 79 = .ok (.iload_n 1, 1) := by decide +kernel
theorem d_Model_border_80 : decode prog_13_method_39_code 80 = .ok (.iload_n 2, 1) := by decide +kernel
theorem d_Model_border_81 : decode prog_13_method_39_code 81 = .ok (.irem, 1) := by decide +kernel
theorem d_Model_border_82 : decode prog_13_method_39_code 82 = .ok (.istore 6, 2) := by decide +kernel
theorem d_Model_border_84 : decode prog_13_method_39_code 84 = .ok (.iload 5, 2) := by decide +kernel
theorem d_Model_border_86 : decode prog_13_method_39_code 86 = .ok (.ifCond .ne 7, 3) := by decide +kernel
theorem d_Model_border_89 : decode prog_13_method_39_code 89 = .ok (.iconst 1, 1) := by decide +kernel
theorem d_Model_border_90 : decode prog_13_method_39_code 90 = .ok (.goto 10, 3) := by decide +kernel
theorem d_Model_border_93 : decode prog_13_method_39_code 93 = .ok (.iload 6, 2) := by decide +kernel
theorem d_Model_border_95 : decode prog_13_method_39_code 95 = .ok (.iload 5, 2) := by decide +kernel
theorem d_Model_border_97 : decode prog_13_method_39_code 97 = .ok (.invokestatic 156, 3) := by decide +kernel
theorem d_Model_border_100 : decode prog_13_method_39_code 100 = .ok (.istore 7, 2) := by decide +kernel
theorem d_Model_border_102 : decode prog_13_method_39_code 102 = .ok (.iload_n 3, 1) := by decide +kernel
theorem d_Model_border_103 : decode prog_13_method_39_code 103 = .ok (.ifCond .ne 8, 3) := by decide +kernel
theorem d_Model_border_106 : decode prog_13_method_39_code 106 = .ok (.iload 5, 2) := by decide +kernel
theorem d_Model_border_108 : decode prog_13_method_39_code 108 = .ok (.goto 30, 3) := by decide +kernel
theorem d_Model_border_111 : decode prog_13_method_39_code 111 = .ok (.iload_n 3, 1) := by decide +kernel
theorem d_Model_border_112 : decode prog_13_method_39_code 112 = .ok (.iconst 1, 1) := by decide +kernel
theorem d_Model_border_113 : decode prog_13_method_39_code 113 = .ok (.if_icmp .ne 11, 3) := by decide +kernel
theorem d_Model_border_116 : decode prog_13_method_39_code 116 = .ok (.iload 6, 2) := by decide +kernel
theorem d_Model_border_118 : decode prog_13_method_39_code 118 = .ok (.iload 7, 2) := by decide +kernel
theorem d_Model_border_120 : decode prog_13_method_39_code 120 = .ok (.idiv, 1) := by decide +kernel
theorem d_Model_border_121 : decode prog_13_method_39_code 121 = .ok (.goto 17, 3) := by decide +kernel
theorem d_Model_border_124 : decode prog_13_method_39_code 124 = .ok (.iload 5, 2) := by decide +kernel
theorem d_Model_border_126 : decode prog_13_method_39_code 126 = .ok (.ifCond .ne 7, 3) := by decide +kernel
theorem d_Model_border_129 : decode prog_13_method_39_code 129 = .ok (.iconst 1, 1) := by decide +kernel
theorem d_Model_border_130 : decode prog_13_method_39_code 130 = .ok (.goto 8, 3) := by decide +kernel
theorem d_Model_border_133 : decode prog_13_method_39_code 133 = .ok (.iload 5, 2) := by decide +kernel
theorem d_Model_border_135 : decode prog_13_method_39_code 135 = .ok (.iload 7, 2) := by decide +kernel
theorem d_Model_border_137 : decode prog_13_method_39_code 137 = .ok (.idiv, 1) := by decide +kernel
theorem d_Model_border_138 : decode prog_13_method_39_code 138 = .ok (.ireturn, 1) := by decide +kernel
theorem d_Model_brightness_0 : decode prog_13_method_40_code 0 = .ok (.iconst 2, 1) := by decide +kernel
theorem d_Model_brightness_1 : decode prog_13_method_40_code 1 = .ok (.aload_n 0, 1) := by decide +kernel
theorem d_Model_brightness_2 : decode prog_13_method_40_code 2 = .ok (.getfield 13, 3) := by decide +kernel
theorem d_Model_brightness_5 : decode prog_13_method_40_code 5 = .ok (.iconst 3, 1) := by decide +kernel
theorem d_Model_brightness_6 : decode prog_13_method_40_code 6 = .ok (.iload_n 1, 1) := by decide +kernel
theorem d_Model_brightness_7 : decode prog_13_method_40_code 7 = .ok (.imul, 1) := by decide +kernel
theorem d_Model_brightness_8 : decode prog_13_method_40_code 8 = .ok (.iaload, 1) := by decide +kernel
theorem d_Model_brightness_9 : decode prog_13_method_40_code 9 = .ok (.imul, 1) := by decide +kernel
theorem d_Model_brightness_10 : decode prog_13_method_40_code 10 = .ok (.iconst 5, 1) := by decide +kernel
theorem d_Model_brightness_11 : decode prog_13_method_40_code 11 = .ok (.aload_n 0, 1) := by decide +kernel
theorem d_Model_brightness_12 : decode prog_13_method_40_code 12 = .ok (.getfield 13, 3) := by decide +kernel
theorem d_Model_brightness_15 : decode prog_13_method_40_code 15 = .ok (.iconst 3, 1) := by decide +kernel
theorem d_Model_brightness_16 : decode prog_13_method_40_code 16 = .ok (.iload_n 1, 1) := by decide +kernel
theorem d_Model_brightness_17 : decode prog_13_method_40_code 17 = .ok (.imul, 1) := by decide +kernel
theorem d_Model_brightness_18 : decode prog_13_method_40_code 18 = .ok (.iconst 1, 1) := by decide +kernel
theorem d_Model_brightness_19 : decode prog_13_method_40_code 19 = .ok (.iadd, 1) := by decide +kernel
theorem d_Model_brightness_20 : decode prog_13_method_40_code 20 = .ok (.iaload, 1) := by decide +kernel
theorem d_Model_brightness_21 : decode prog_13_method_40_code 21 = .ok (.imul, 1) := by decide +kernel
theorem d_Model_brightness_22 : decode prog_13_method_40_code 22 = .ok (.iadd, 1) := by decide +kernel
theorem d_Model_brightness_23 : decode prog_13_method_40_code 23 = .ok (.aload_n 0, 1) := by decide +kernel
theorem d_Model_brightness_24 : decode prog_13_method_40_code 24 = .ok (.getfield 13, 3) := by decide +kernel
theorem d_Model_brightness_27 : decode prog_13_method_40_code 27 = .ok (.iconst 3, 1) := by decide +kernel
theorem d_Model_brightness_28 : decode prog_13_method_40_code 28 = .ok (.iload_n 1, 1) := by decide +kernel
theorem d_Model_brightness_29 : decode prog_13_method_40_code 29 = .ok (.imul, 1) := by decide +kernel
theorem d_Model_brightness_30 : decode prog_13_method_40_code 30 = .ok (.iconst 2, 1) := by decide +kernel
theorem d_Model_brightness_31 : decode prog_13_method_40_code 31 = .ok (.iadd, 1) := by decide +kernel
theorem d_Model_brightness_32 : decode prog_13_method_40_code 32 = .ok (.iaload, 1) := by decide +kernel
theorem d_Model_brightness_33 : decode prog_13_method_40_code 33 = .ok (.iadd, 1) := by decide +kernel
theorem d_Model_brightness_34 : decode prog_13_method_40_code 34 = .ok (.ireturn, 1) := by decide +kernel
theorem d_Model_comesBefore_0 : decode prog_13_method_32_code 0 = .ok (.aload_n 0, 1) := by decide +kernel
theorem d_Model_comesBefore_1 : decode prog_13_method_32_code 1 = .ok (.iload_n 1, 1) := by decide +kernel
theorem d_Model_comesBefore_2 : decode prog_13_method_32_code 2 = .ok (.invokevirtual 119, 3) := by decide +kernel
theorem d_Model_comesBefore_5 : decode prog_13_method_32_code 5 = .ok (.istore_n 3, 1) := by decide +kernel
theorem d_Model_comesBefore_6 : decode prog_13_method_32_code 6 = .ok (.aload_n 0, 1) := by decide +kernel
theorem d_Model_comesBefore_7 : decode prog_13_method_32_code 7 = .ok (.iload_n 2, 1) := by decide +kernel
theorem d_Model_comesBefore_8 : decode prog_13_method_32_code 8 = .ok (.invokevirtual 119, 3) := by decide +kernel
theorem d_Model_comesBefore_11 : decode prog_13_method_32_code 11 = .ok (.istore 4, 2) := by decide +kernel
theorem d_Model_comesBefore_13 : decode prog_13_method_32_code 13 = .ok (.iload_n 3, 1) := by decide +kernel
theorem d_Model_comesBefore_14 : decode prog_13_method_32_code 14 = .ok (.iload 4, 2) := by decide +kernel
theorem d_Model_comesBefore_16 : decode prog_13_method_32_code 16 = .ok (.if_icmp .eq 6, 3) := by decide +kernel
theorem d_Model_comesBefore_19 : decode prog_13_method_32_code 19 = .ok (.iload 4, 2) := by decide +kernel
theorem d_Model_comesBefore_21 : decode prog_13_method_32_code 21 = .ok (.ireturn, 1) := by decide +kernel
theorem d_Model_comesBefore_22 : decode prog_13_method_32_code 22 = .ok (.aload_n 0, 1) := by decide +kernel
theorem d_Model_comesBefore_23 : decode prog_13_method_32_code 23 = .ok (.getfield 25, 3) := by decide +kernel
theorem d_Model_comesBefore_26 : decode prog_13_method_32_code 26 = .ok (.aload_n 0, 1) := by decide +kernel
theorem d_Model_comesBefore_27 : decode prog_13_method_32_code 27 = .ok (.getfield 22, 3) := by decide +kernel
theorem d_Model_comesBefore_30 : decode prog_13_method_32_code 30 = .ok (.iload_n 1, 1) := by decide +kernel
theorem d_Model_comesBefore_31 : decode prog_13_method_32_code 31 = .ok (.iaload, 1) := by decide +kernel
theorem d_Model_comesBefore_32 : decode prog_13_method_32_code 32 = .ok (.iaload, 1) := by decide +kernel
