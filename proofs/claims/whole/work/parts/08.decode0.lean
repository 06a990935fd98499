theorem d_PI_at_0 : decode prog_1_method_14_code 0 = .ok (.aload_n 0, 1) := by decide +kernel
theorem d_PI_at_1 : decode prog_1_method_14_code 1 = .ok (.invokevirtual 196, 3) := by decide +kernel
theorem d_PI_at_4 : decode prog_1_method_14_code 4 = .ok (.aload_n 0, 1) := by decide +kernel
theorem d_PI_at_5 : decode prog_1_method_14_code 5 = .ok (.iload_n 1, 1) := by decide +kernel
theorem d_PI_at_6 : decode prog_1_method_14_code 6 = .ok (.invokevirtual 139, 3) := by decide +kernel
theorem d_PI_at_9 : decode prog_1_method_14_code 9 = .ok (.iload_n 2, 1) := by decide +kernel
theorem d_PI_at_10 : decode prog_1_method_14_code 10 = .ok (.iconst 2, 1) := by decide +kernel
theorem d_PI_at_11 : decode prog_1_method_14_code 11 = .ok (.invokestatic 115, 3) := by decide +kernel
theorem d_PI_at_14 : decode prog_1_method_14_code 14 = .ok (.iload_n 2, 1) := by decide +kernel
theorem d_PI_at_15 : decode prog_1_method_14_code 15 = .ok (.ifCond .ne 14, 3) := by decide +kernel
theorem d_PI_at_18 : decode prog_1_method_14_code 18 = .ok (.aload_n 0, 1) := by decide +kernel
theorem d_PI_at_19 : decode prog_1_method_14_code 19 = .ok (.getfield 86, 3) := by decide +kernel
theorem d_PI_at_22 : decode prog_1_method_14_code 22 = .ok (.iload_n 1, 1) := by decide +kernel
theorem d_PI_at_23 : decode prog_1_method_14_code 23 = .ok (.invokevirtual 199, 3) := by decide +kernel
theorem d_PI_at_26 : decode prog_1_method_14_code 26 = .ok (.goto 11, 3) := by decide +kernel
theorem d_PI_at_29 : decode prog_1_method_14_code 29 = .ok (.aload_n 0, 1) := by decide +kernel
theorem d_PI_at_30 : decode prog_1_method_14_code 30 = .ok (.getfield 86, 3) := by decide +kernel
theorem d_PI_at_33 : decode prog_1_method_14_code 33 = .ok (.iload_n 1, 1) := by decide +kernel
theorem d_PI_at_34 : decode prog_1_method_14_code 34 = .ok (.invokevirtual 202, 3) := by decide +kernel
theorem d_PI_at_37 : decode prog_1_method_14_code 37 = .ok (.ireturn, 1) := by decide +kernel
theorem d_PI_border_0 : decode prog_1_method_15_code 0 = .ok (.iload_n 3, 1) := by decide +kernel
theorem d_PI_border_1 : decode prog_1_method_15_code 1 = .ok (.iconst 3, 1) := by decide +kernel
theorem d_PI_border_2 : decode prog_1_method_15_code 2 = .ok (.invokestatic 115, 3) := by decide +kernel
theorem d_PI_border_5 : decode prog_1_method_15_code 5 = .ok (.iload_n 1, 1) := by decide +kernel
theorem d_PI_border_6 : decode prog_1_method_15_code 6 = .ok (.iconst 1, 1) := by decide +kernel
theorem d_PI_border_7 : decode prog_1_method_15_code 7 = .ok (.ldc 205, 2) := by decide +kernel
theorem d_PI_border_9 : decode prog_1_method_15_code 9 = .ok (.invokestatic 118, 3) := by decide +kernel
theorem d_PI_border_12 : decode prog_1_method_15_code 12 = .ok (.iload_n 2, 1) := by decide +kernel
theorem d_PI_border_13 : decode prog_1_method_15_code 13 = .ok (.iconst 1, 1) := by decide +kernel
theorem d_PI_border_14 : decode prog_1_method_15_code 14 = .ok (.ldc 205, 2) := by decide +kernel
theorem d_PI_border_16 : decode prog_1_method_15_code 16 = .ok (.invokestatic 118, 3) := by decide +kernel
theorem d_PI_border_19 : decode prog_1_method_15_code 19 = .ok (.iload_n 2, 1) := by decide +kernel
theorem d_PI_border_20 : decode prog_1_method_15_code 20 = .ok (.ifCond .le 9, 3) := by decide +kernel
theorem d_PI_border_23 : decode prog_1_method_15_code 23 = .ok (.iload_n 1, 1) := by decide +kernel
theorem d_PI_border_24 : decode prog_1_method_15_code 24 = .ok (.iload_n 2, 1) := by decide +kernel
theorem d_PI_border_25 : decode prog_1_method_15_code 25 = .ok (.idiv, 1) := by decide +kernel
theorem d_PI_border_26 : decode prog_1_method_15_code 26 = .ok (.goto 4, 3) := by decide +kernel
theorem d_PI_border_29 : decode prog_1_method_15_code 29 = .ok (.iconst 0, 1) := by decide +kernel
theorem d_PI_border_30 : decode prog_1_method_15_code 30 = .ok (.istore 4, 2) := by decide +kernel
theorem d_PI_border_32 : decode prog_1_method_15_code 32 = .ok (.iload_n 3, 1) := by decide +kernel
theorem d_PI_border_33 : decode prog_1_method_15_code 33 = .ok (.ifCond .ne 6, 3) := by decide +kernel
theorem d_PI_border_36 : decode prog_1_method_15_code 36 = .ok (.iload 4, 2) := by decide +kernel
theorem d_PI_border_38 : decode prog_1_method_15_code 38 = .ok (.ireturn, 1) := by decide +kernel
theorem d_PI_border_39 : decode prog_1_method_15_code 39 = .ok (.iload 4, 2) := by decide +kernel
theorem d_PI_border_41 : decode prog_1_method_15_code 41 = .ok (.ifCond .le 12, 3) := by decide +kernel
theorem d_PI_border_44 : decode prog_1_method_15_code 44 = .ok (.iload_n 1, 1) := by decide +kernel
theorem d_PI_border_45 : decode prog_1_method_15_code 45 = .ok (.iload 4, 2) := by decide +kernel
theorem d_PI_border_47 : decode prog_1_method_15_code 47 = .ok (.iload_n 2, 1) := by decide +kernel
theorem d_PI_border_48 : decode prog_1_method_15_code 48 = .ok (.imul, 1) := by decide +kernel
theorem d_PI_border_49 : decode prog_1_method_15_code 49 = .ok (.isub, 1) := by decide +kernel
theorem d_PI_border_50 : decode prog_1_method_15_code 50 = .ok (.goto 4, 3) := by decide +kernel
theorem d_PI_border_53 : decode prog_1_method_15_code 53 = .ok (.iconst 0, 1) := by decide +kernel
theorem d_PI_border_54 : decode prog_1_method_15_code 54 = .ok (.istore 5, 2) := by decide +kernel
theorem d_PI_border_56 : decode prog_1_method_15_code 56 = .ok (.iload 4, 2) := by decide +kernel
theorem d_PI_border_58 : decode prog_1_method_15_code 58 = .ok (.iconst 1, 1) := by decide +kernel
theorem d_PI_border_59 : decode prog_1_method_15_code 59 = .ok (.invokestatic 206, 3) := by decide +kernel
theorem d_PI_border_62 : decode prog_1_method_15_code 62 = .ok (.istore 6, 2) := by decide +kernel
theorem d_PI_border_64 : decode prog_1_method_15_code 64 = .ok (.iload 6, 2) := by decide +kernel
theorem d_PI_border_66 : decode prog_1_method_15_code 66 = .ok (.iload 5, 2) := by decide +kernel
theorem d_PI_border_68 : decode prog_1_method_15_code 68 = .ok (.invokestatic 211, 3) := by decide +kernel
theorem d_PI_border_71 : decode prog_1_method_15_code 71 = .ok (.istore 7, 2) := by decide +kernel
theorem d_PI_border_73 : decode prog_1_method_15_code 73 = .ok (.iload_n 3, 1) := by decide +kernel
theorem d_PI_border_74 : decode prog_1_method_15_code 74 = .ok (.iconst 1, 1) := by decide +kernel
theorem d_PI_border_75 : decode prog_1_method_15_code 75 = .ok (.if_icmp .ne 8, 3) := by decide +kernel
theorem d_PI_border_78 : decode prog_1_method_15_code 78 = .ok (.iload 5, 2) := by decide +kernel
theorem d_PI_border_80 : decode prog_1_method_15_code 80 = .ok (.goto 5, 3) := by decide +kernel
theorem d_PI_border_83 : decode prog_1_method_15_code 83 = .ok (.iload 6, 2) := by decide +kernel
theorem d_PI_border_85 : decode prog_1_method_15_code 85 = .ok (.istore 8, 2) := by decide +kernel
theorem d_PI_border_87 : decode prog_1_method_15_code 87 = .ok (.iload 7, 2) := by decide +kernel
theorem d_PI_border_89 : decode prog_1_method_15_code 89 = .ok (.ifCond .le 11, 3) := by decide +kernel
theorem d_PI_border_92 : decode prog_1_method_15_code 92 = .ok (.iload 8, 2) := by decide +kernel
theorem d_PI_border_94 : decode prog_1_method_15_code 94 = .ok (.iload 7, 2) := by decide +kernel
theorem d_PI_border_96 : decode prog_1_method_15_code 96 = .ok (.idiv, 1) := by decide +kernel
theorem d_PI_border_97 : decode prog_1_method_15_code 97 = .ok (.goto 5, 3) := by decide +kernel
theorem d_PI_border_100 : decode prog_1_method_15_code 100 = .ok (.iload 8, 2) := by decide +kernel
theorem d_PI_border_102 : decode prog_1_method_15_code 102 = .ok (.ireturn, 1) := by decide +kernel
theorem d_PI_commonDivisor_0 : decode prog_1_method_18_code 0 = .ok (.iload_n 0, 1) := by decide +kernel
theorem d_PI_commonDivisor_1 : decode prog_1_method_18_code 1 = .ok (.istore_n 2, 1) := by decide +kernel
theorem d_PI_commonDivisor_2 : decode prog_1_method_18_code 2 = .ok (.iload_n 1, 1) := by decide +kernel
theorem d_PI_commonDivisor_3 : decode prog_1_method_18_code 3 = .ok (.istore_n 3, 1) := by decide +kernel
theorem d_PI_commonDivisor_4 : decode prog_1_method_18_code 4 = .ok (.iconst 0, 1) := by decide +kernel
theorem d_PI_commonDivisor_5 : decode prog_1_method_18_code 5 = .ok (.istore 4, 2) := by decide +kernel
theorem d_PI_commonDivisor_7 : decode prog_1_method_18_code 7 = .ok (.iload 4, 2) := by decide +kernel
theorem d_PI_commonDivisor_9 : decode prog_1_method_18_code 9 = .ok (.ldc 205, 2) := by decide +kernel
theorem d_PI_commonDivisor_11 : decode prog_1_method_18_code 11 = .ok (.if_icmp .ge 23, 3) := by decide +kernel
theorem d_PI_commonDivisor_14 : decode prog_1_method_18_code 14 = .ok (.iload_n 3, 1) := by decide +kernel
theorem d_PI_commonDivisor_15 : decode prog_1_method_18_code 15 = .ok (.ifCond .eq 19, 3) := by decide +kernel
theorem d_PI_commonDivisor_18 : decode prog_1_method_18_code 18 = .ok (.iload_n 2, 1) := by decide +kernel
theorem d_PI_commonDivisor_19 : decode prog_1_method_18_code 19 = .ok (.iload_n 3, 1) := by decide +kernel
theorem d_PI_commonDivisor_20 : decode prog_1_method_18_code 20 = .ok (.irem, 1) := by decide +kernel
theorem d_PI_commonDivisor_21 : decode prog_1_method_18_code 21 = .ok (.istore 5, 2) := by decide +kernel
theorem d_PI_commonDivisor_23 : decode prog_1_method_18_code 23 = .ok (.iload_n 3, 1) := by decide +kernel
theorem d_PI_commonDivisor_24 : decode prog_1_method_18_code 24 = .ok (.istore_n 2, 1) := by decide +kernel
theorem d_PI_commonDivisor_25 : decode prog_1_method_18_code 25 = .ok (.iload 5, 2) := by decide +kernel
theorem d_PI_commonDivisor_27 : decode prog_1_method_18_code 27 = .ok (.istore_n 3, 1) := by decide +kernel
theorem d_PI_commonDivisor_28 : decode prog_1_method_18_code 28 = .ok (.iinc 4 1, 3) := by decide +kernel
theorem d_PI_commonDivisor_31 : decode prog_1_method_18_code 31 = .ok (.goto (-24), 3) := by decide +kernel
theorem d_PI_commonDivisor_34 : decode prog_1_method_18_code 34 = .ok (.iload_n 2, 1) := by decide +kernel
theorem d_PI_commonDivisor_35 : decode prog_1_method_18_code 35 = .ok (.ireturn, 1) := by decide +kernel
theorem d_PI_corner_0 : decode prog_1_method_9_code 0 = .ok (.aload_n 0, 1) := by decide +kernel
theorem d_PI_corner_1 : decode prog_1_method_9_code 1 = .ok (.iload_n 1, 1) := by decide +kernel
theorem d_PI_corner_2 : decode prog_1_method_9_code 2 = .ok (.invokevirtual 139, 3) := by decide +kernel
theorem d_PI_corner_5 : decode prog_1_method_9_code 5 = .ok (.iload_n 3, 1) := by decide +kernel
theorem d_PI_corner_6 : decode prog_1_method_9_code 6 = .ok (.iconst 2, 1) := by decide +kernel
theorem d_PI_corner_7 : decode prog_1_method_9_code 7 = .ok (.invokestatic 115, 3) := by decide +kernel
theorem d_PI_corner_10 : decode prog_1_method_9_code 10 = .ok (.aload_n 0, 1) := by decide +kernel
theorem d_PI_corner_11 : decode prog_1_method_9_code 11 = .ok (.getfield 72, 3) := by decide +kernel
theorem d_PI_corner_14 : decode prog_1_method_9_code 14 = .ok (.iload_n 1, 1) := by decide +kernel
theorem d_PI_corner_15 : decode prog_1_method_9_code 15 = .ok (.invokevirtual 168, 3) := by decide +kernel
theorem d_PI_corner_18 : decode prog_1_method_9_code 18 = .ok (.iload_n 2, 1) := by decide +kernel
theorem d_PI_corner_19 : decode prog_1_method_9_code 19 = .ok (.aload_n 0, 1) := by decide +kernel
theorem d_PI_corner_20 : decode prog_1_method_9_code 20 = .ok (.getfield 72, 3) := by decide +kernel
theorem d_PI_corner_23 : decode prog_1_method_9_code 23 = .ok (.getfield 171, 3) := by decide +kernel
theorem d_PI_corner_26 : decode prog_1_method_9_code 26 = .ok (.invokestatic 115, 3) := by decide +kernel
theorem d_PI_corner_29 : decode prog_1_method_9_code 29 = .ok (.iload_n 3, 1) := by decide +kernel
theorem d_PI_corner_30 : decode prog_1_method_9_code 30 = .ok (.ifCond .ne 14, 3) := by decide +kernel
theorem d_PI_corner_33 : decode prog_1_method_9_code 33 = .ok (.aload_n 0, 1) := by decide +kernel
theorem d_PI_corner_34 : decode prog_1_method_9_code 34 = .ok (.getfield 72, 3) := by decide +kernel
theorem d_PI_corner_37 : decode prog_1_method_9_code 37 = .ok (.iload_n 2, 1) := by decide +kernel
theorem d_PI_corner_38 : decode prog_1_method_9_code 38 = .ok (.invokevirtual 174, 3) := by decide +kernel
theorem d_PI_corner_41 : decode prog_1_method_9_code 41 = .ok (.goto 11, 3) := by decide +kernel
theorem d_PI_corner_44 : decode prog_1_method_9_code 44 = .ok (.aload_n 0, 1) := by decide +kernel
theorem d_PI_corner_45 : decode prog_1_method_9_code 45 = .ok (.getfield 72, 3) := by decide +kernel
theorem d_PI_corner_48 : decode prog_1_method_9_code 48 = .ok (.iload_n 2, 1) := by decide +kernel
theorem d_PI_corner_49 : decode prog_1_method_9_code 49 = .ok (.invokevirtual 177, 3) := by decide +kernel
theorem d_PI_corner_52 : decode prog_1_method_9_code 52 = .ok (.ireturn, 1) := by decide +kernel
theorem d_PI_joined_0 : decode prog_1_method_7_code 0 = .ok (.aload_n 0, 1) := by decide +kernel
theorem d_PI_joined_1 : decode prog_1_method_7_code 1 = .ok (.iload_n 1, 1) := by decide +kernel
theorem d_PI_joined_2 : decode prog_1_method_7_code 2 = .ok (.invokevirtual 139, 3) := by decide +kernel
theorem d_PI_joined_5 : decode prog_1_method_7_code 5 = .ok (.aload_n 0, 1) := by decide +kernel
theorem d_PI_joined_6 : decode prog_1_method_7_code 6 = .ok (.iload_n 2, 1) := by decide +kernel
theorem d_PI_joined_7 : decode prog_1_method_7_code 7 = .ok (.invokevirtual 139, 3) := by decide +kernel
theorem d_PI_joined_10 : decode prog_1_method_7_code 10 = .ok (.aload_n 0, 1) := by decide +kernel
theorem d_PI_joined_11 : decode prog_1_method_7_code 11 = .ok (.getfield 46, 3) := by decide +kernel
theorem d_PI_joined_14 : decode prog_1_method_7_code 14 = .ok (.iload_n 1, 1) := by decide +kernel
theorem d_PI_joined_15 : decode prog_1_method_7_code 15 = .ok (.iload_n 2, 1) := by decide +kernel
theorem d_PI_joined_16 : decode prog_1_method_7_code 16 = .ok (.invokevirtual 165, 3) := by decide +kernel
theorem d_PI_joined_19 : decode prog_1_method_7_code 19 = .ok (.ireturn, 1) := by decide +kernel
theorem d_PI_kind_0 : decode prog_1_method_3_code 0 = .ok (.iload_n 1, 1) := by decide +kernel
theorem d_PI_kind_1 : decode prog_1_method_3_code 1 = .ok (.aload_n 0, 1) := by decide +kernel
theorem d_PI_kind_2 : decode prog_1_method_3_code 2 = .ok (.getfield 22, 3) := by decide +kernel
theorem d_PI_kind_5 : decode prog_1_method_3_code 5 = .ok (.invokestatic 115, 3) := by decide +kernel
theorem d_PI_kind_8 : decode prog_1_method_3_code 8 = .ok (.iload_n 2, 1) := by decide +kernel
theorem d_PI_kind_9 : decode prog_1_method_3_code 9 = .ok (.iload_n 3, 1) := by decide +kernel
theorem d_PI_kind_10 : decode prog_1_method_3_code 10 = .ok (.iload 4, 2) := by decide +kernel
theorem d_PI_kind_12 : decode prog_1_method_3_code 12 = .ok (.invokestatic 100, 3) := by decide +kernel
theorem d_PI_kind_15 : decode prog_1_method_3_code 15 = .ok (.aload_n 0, 1) := by decide +kernel
theorem d_PI_kind_16 : decode prog_1_method_3_code 16 = .ok (.aload_n 0, 1) := by decide +kernel
theorem d_PI_kind_17 : decode prog_1_method_3_code 17 = .ok (.getfield 38, 3) := by decide +kernel
theorem d_PI_kind_20 : decode prog_1_method_3_code 20 = .ok (.iload_n 1, 1) := by decide +kernel
theorem d_PI_kind_21 : decode prog_1_method_3_code 21 = .ok (.iload_n 2, 1) := by decide +kernel
theorem d_PI_kind_22 : decode prog_1_method_3_code 22 = .ok (.iload_n 3, 1) := by decide +kernel
theorem d_PI_kind_23 : decode prog_1_method_3_code 23 = .ok (.iload 4, 2) := by decide +kernel
theorem d_PI_kind_25 : decode prog_1_method_3_code 25 = .ok (.invokevirtual 107, 3) := by decide +kernel
theorem d_PI_kind_28 : decode prog_1_method_3_code 28 = .ok (.invokevirtual 111, 3) := by decide +kernel
theorem d_PI_kind_31 : decode prog_1_method_3_code 31 = .ok (.ireturn, 1) := by decide +kernel
theorem d_PI_left_0 : decode prog_1_method_10_code 0 = .ok (.aload_n 0, 1) := by decide +kernel
theorem d_PI_left_1 : decode prog_1_method_10_code 1 = .ok (.iload_n 1, 1) := by decide +kernel
theorem d_PI_left_2 : decode prog_1_method_10_code 2 = .ok (.invokevirtual 139, 3) := by decide +kernel
theorem d_PI_left_5 : decode prog_1_method_10_code 5 = .ok (.iload_n 2, 1) := by decide +kernel
theorem d_PI_left_6 : decode prog_1_method_10_code 6 = .ok (.iconst 0, 1) := by decide +kernel
theorem d_PI_left_7 : decode prog_1_method_10_code 7 = .ok (.bipush 10, 2) := by decide +kernel
theorem d_PI_left_9 : decode prog_1_method_10_code 9 = .ok (.invokestatic 118, 3) := by decide +kernel
theorem d_PI_left_12 : decode prog_1_method_10_code 12 = .ok (.aload_n 0, 1) := by decide +kernel
theorem d_PI_left_13 : decode prog_1_method_10_code 13 = .ok (.getfield 79, 3) := by decide +kernel
theorem d_PI_left_16 : decode prog_1_method_10_code 16 = .ok (.iload_n 1, 1) := by decide +kernel
theorem d_PI_left_17 : decode prog_1_method_10_code 17 = .ok (.iload_n 2, 1) := by decide +kernel
theorem d_PI_left_18 : decode prog_1_method_10_code 18 = .ok (.invokevirtual 180, 3) := by decide +kernel
theorem d_PI_left_21 : decode prog_1_method_10_code 21 = .ok (.aload_n 0, 1) := by decide +kernel
theorem d_PI_left_22 : decode prog_1_method_10_code 22 = .ok (.getfield 46, 3) := by decide +kernel
theorem d_PI_left_25 : decode prog_1_method_10_code 25 = .ok (.iload_n 1, 1) := by decide +kernel
theorem d_PI_left_26 : decode prog_1_method_10_code 26 = .ok (.invokevirtual 146, 3) := by decide +kernel
theorem d_PI_left_29 : decode prog_1_method_10_code 29 = .ok (.aload_n 0, 1) := by decide +kernel
theorem d_PI_left_30 : decode prog_1_method_10_code 30 = .ok (.getfield 79, 3) := by decide +kernel
theorem d_PI_left_33 : decode prog_1_method_10_code 33 = .ok (.getfield 183, 3) := by decide +kernel
theorem d_PI_left_36 : decode prog_1_method_10_code 36 = .ok (.isub, 1) := by decide +kernel
theorem d_PI_left_37 : decode prog_1_method_10_code 37 = .ok (.ireturn, 1) := by decide +kernel
theorem d_PI_needColour_0 : decode prog_1_method_24_code 0 = .ok (.iload_n 0, 1) := by decide +kernel
theorem d_PI_needColour_1 : decode prog_1_method_24_code 1 = .ok (.iconst 0, 1) := by decide +kernel
theorem d_PI_needColour_2 : decode prog_1_method_24_code 2 = .ok (.sipush 255, 3) := by decide +kernel
theorem d_PI_needColour_5 : decode prog_1_method_24_code 5 = .ok (.invokestatic 118, 3) := by decide +kernel
theorem d_PI_needColour_8 : decode prog_1_method_24_code 8 = .ok (.iload_n 1, 1) := by decide +kernel
theorem d_PI_needColour_9 : decode prog_1_method_24_code 9 = .ok (.iconst 0, 1) := by decide +kernel
theorem d_PI_needColour_10 : decode prog_1_method_24_code 10 = .ok (.sipush 255, 3) := by decide +kernel
theorem d_PI_needColour_13 : decode prog_1_method_24_code 13 = .ok (.invokestatic 118, 3) := by decide +kernel
theorem d_PI_needColour_16 : decode prog_1_method_24_code 16 = .ok (.iload_n 2, 1) := by decide +kernel
theorem d_PI_needColour_17 : decode prog_1_method_24_code 17 = .ok (.iconst 0, 1) := by decide +kernel
theorem d_PI_needColour_18 : decode prog_1_method_24_code 18 = .ok (.sipush 255, 3) := by decide +kernel
theorem d_PI_needColour_21 : decode prog_1_method_24_code 21 = .ok (.invokestatic 118, 3) := by decide +kernel
theorem d_PI_needColour_24 : decode prog_1_method_24_code 24 = .ok (.return_, 1) := by decide +kernel
theorem d_PI_needIndex_0 : decode prog_1_method_25_code 0 = .ok (.iload_n 0, 1) := by decide +kernel
theorem d_PI_needIndex_1 : decode prog_1_method_25_code 1 = .ok (.ifCond .lt 8, 3) := by decide +kernel
theorem d_PI_needIndex_4 : decode prog_1_method_25_code 4 = .ok (.iload_n 0, 1) := by decide +kernel
theorem d_PI_needIndex_5 : decode prog_1_method_25_code 5 = .ok (.iload_n 1, 1) := by decide +kernel
theorem d_PI_needIndex_6 : decode prog_1_method_25_code 6 = .ok (.if_icmp .lt 13, 3) := by decide +kernel
theorem d_PI_needIndex_9 : decode prog_1_method_25_code 9 = .ok (.new 232, 3) := by decide +kernel
theorem d_PI_needIndex_12 : decode prog_1_method_25_code 12 = .ok (.dup, 1) := by decide +kernel
theorem d_PI_needIndex_13 : decode prog_1_method_25_code 13 = .ok (.ldc 234, 2) := by decide +kernel
theorem d_PI_needIndex_15 : decode prog_1_method_25_code 15 = .ok (.invokespecial 236, 3) := by decide +kernel
theorem d_PI_needIndex_18 : decode prog_1_method_25_code 18 = .ok (.athrow, 1) := by decide +kernel
theorem d_PI_needIndex_19 : decode prog_1_method_25_code 19 = .ok (.return_, 1) := by decide +kernel
theorem d_PI_needNested_0 : decode prog_1_method_21_code 0 = .ok (.aload_n 0, 1) := by decide +kernel
theorem d_PI_needNested_1 : decode prog_1_method_21_code 1 = .ok (.getfield 94, 3) := by decide +kernel
theorem d_PI_needNested_4 : decode prog_1_method_21_code 4 = .ok (.ifCond .ne 13, 3) := by decide +kernel
theorem d_PI_needNested_7 : decode prog_1_method_21_code 7 = .ok (.new 217, 3) := by decide +kernel
theorem d_PI_needNested_10 : decode prog_1_method_21_code 10 = .ok (.dup, 1) := by decide +kernel
theorem d_PI_needNested_11 : decode prog_1_method_21_code 11 = .ok (.ldc 224, 2) := by decide +kernel
theorem d_PI_needNested_13 : decode prog_1_method_21_code 13 = .ok (.invokespecial 221, 3) := by decide +kernel
theorem d_PI_needNested_16 : decode prog_1_method_21_code 16 = .ok (.athrow, 1) := by decide +kernel
theorem d_PI_needNested_17 : decode prog_1_method_21_code 17 = .ok (.return_, 1) := by decide +kernel
theorem d_PI_needNumber_0 : decode prog_1_method_26_code 0 = .ok (.iload_n 0, 1) := by decide +kernel
theorem d_PI_needNumber_1 : decode prog_1_method_26_code 1 = .ok (.iload_n 1, 1) := by decide +kernel
theorem d_PI_needNumber_2 : decode prog_1_method_26_code 2 = .ok (.if_icmp .lt 8, 3) := by decide +kernel
theorem d_PI_needNumber_5 : decode prog_1_method_26_code 5 = .ok (.iload_n 0, 1) := by decide +kernel
theorem d_PI_needNumber_6 : decode prog_1_method_26_code 6 = .ok (.iload_n 2, 1) := by decide +kernel
theorem d_PI_needNumber_7 : decode prog_1_method_26_code 7 = .ok (.if_icmp .le 13, 3) := by decide +kernel
theorem d_PI_needNumber_10 : decode prog_1_method_26_code 10 = .ok (.new 237, 3) := by decide +kernel
theorem d_PI_needNumber_13 : decode prog_1_method_26_code 13 = .ok (.dup, 1) := by decide +kernel
theorem d_PI_needNumber_14 : decode prog_1_method_26_code 14 = .ok (.ldc 239, 2) := by decide +kernel
theorem d_PI_needNumber_16 : decode prog_1_method_26_code 16 = .ok (.invokespecial 241, 3) := by decide +kernel
theorem d_PI_needNumber_19 : decode prog_1_method_26_code 19 = .ok (.athrow, 1) := by decide +kernel
theorem d_PI_needNumber_20 : decode prog_1_method_26_code 20 = .ok (.return_, 1) := by decide +kernel
theorem d_PI_needParted_0 : decode prog_1_method_20_code 0 = .ok (.aload_n 0, 1) := by decide +kernel
theorem d_PI_needParted_1 : decode prog_1_method_20_code 1 = .ok (.getfield 90, 3) := by decide +kernel
theorem d_PI_needParted_4 : decode prog_1_method_20_code 4 = .ok (.ifCond .ne 13, 3) := by decide +kernel
theorem d_PI_needParted_7 : decode prog_1_method_20_code 7 = .ok (.new 217, 3) := by decide +kernel
theorem d_PI_needParted_10 : decode prog_1_method_20_code 10 = .ok (.dup, 1) := by decide +kernel
theorem d_PI_needParted_11 : decode prog_1_method_20_code 11 = .ok (.ldc 219, 2) := by decide +kernel
theorem d_PI_needParted_13 : decode prog_1_method_20_code 13 = .ok (.invokespecial 221, 3) := by decide +kernel
theorem d_PI_needParted_16 : decode prog_1_method_20_code 16 = .ok (.athrow, 1) := by decide +kernel
theorem d_PI_needParted_17 : decode prog_1_method_20_code 17 = .ok (.return_, 1) := by decide +kernel
theorem d_PI_needPiece_0 : decode prog_1_method_22_code 0 = .ok (.aload_n 0, 1) := by decide +kernel
theorem d_PI_needPiece_1 : decode prog_1_method_22_code 1 = .ok (.invokevirtual 133, 3) := by decide +kernel
theorem d_PI_needPiece_4 : decode prog_1_method_22_code 4 = .ok (.iload_n 1, 1) := by decide +kernel
theorem d_PI_needPiece_5 : decode prog_1_method_22_code 5 = .ok (.aload_n 0, 1) := by decide +kernel
theorem d_PI_needPiece_6 : decode prog_1_method_22_code 6 = .ok (.getfield 46, 3) := by decide +kernel
theorem d_PI_needPiece_9 : decode prog_1_method_22_code 9 = .ok (.getfield 125, 3) := by decide +kernel
theorem d_PI_needPiece_12 : decode prog_1_method_22_code 12 = .ok (.invokestatic 115, 3) := by decide +kernel
theorem d_PI_needPiece_15 : decode prog_1_method_22_code 15 = .ok (.return_, 1) := by decide +kernel
theorem d_PI_needPlace_0 : decode prog_1_method_23_code 0 = .ok (.iload_n 1, 1) := by decide +kernel
theorem d_PI_needPlace_1 : decode prog_1_method_23_code 1 = .ok (.aload_n 0, 1) := by decide +kernel
theorem d_PI_needPlace_2 : decode prog_1_method_23_code 2 = .ok (.getfield 18, 3) := by decide +kernel
theorem d_PI_needPlace_5 : decode prog_1_method_23_code 5 = .ok (.getfield 226, 3) := by decide +kernel
theorem d_PI_needPlace_8 : decode prog_1_method_23_code 8 = .ok (.invokestatic 115, 3) := by decide +kernel
theorem d_PI_needPlace_11 : decode prog_1_method_23_code 11 = .ok (.iload_n 2, 1) := by decide +kernel
theorem d_PI_needPlace_12 : decode prog_1_method_23_code 12 = .ok (.aload_n 0, 1) := by decide +kernel
theorem d_PI_needPlace_13 : decode prog_1_method_23_code 13 = .ok (.getfield 18, 3) := by decide +kernel
theorem d_PI_needPlace_16 : decode prog_1_method_23_code 16 = .ok (.getfield 229, 3) := by decide +kernel
theorem d_PI_needPlace_19 : decode prog_1_method_23_code 19 = .ok (.invokestatic 115, 3) := by decide +kernel
theorem d_PI_needPlace_22 : decode prog_1_method_23_code 22 = .ok (.return_, 1) := by decide +kernel
theorem d_PI_nest_0 : decode prog_1_method_13_code 0 = .ok (.aload_n 0, 1) := by decide +kernel
theorem d_PI_nest_1 : decode prog_1_method_13_code 1 = .ok (.invokevirtual 133, 3) := by decide +kernel
theorem d_PI_nest_4 : decode prog_1_method_13_code 4 = .ok (.iload_n 1, 1) := by decide +kernel
theorem d_PI_nest_5 : decode prog_1_method_13_code 5 = .ok (.iconst 1, 1) := by decide +kernel
theorem d_PI_nest_6 : decode prog_1_method_13_code 6 = .ok (.bipush 100, 2) := by decide +kernel
theorem d_PI_nest_8 : decode prog_1_method_13_code 8 = .ok (.invokestatic 118, 3) := by decide +kernel
theorem d_PI_nest_11 : decode prog_1_method_13_code 11 = .ok (.iload_n 2, 1) := by decide +kernel
theorem d_PI_nest_12 : decode prog_1_method_13_code 12 = .ok (.iconst 1, 1) := by decide +kernel
theorem d_PI_nest_13 : decode prog_1_method_13_code 13 = .ok (.bipush 100, 2) := by decide +kernel
theorem d_PI_nest_15 : decode prog_1_method_13_code 15 = .ok (.invokestatic 118, 3) := by decide +kernel
theorem d_PI_nest_18 : decode prog_1_method_13_code 18 = .ok (.aload_n 0, 1) := by decide +kernel
theorem d_PI_nest_19 : decode prog_1_method_13_code 19 = .ok (.iconst 1, 1) := by decide +kernel
theorem d_PI_nest_20 : decode prog_1_method_13_code 20 = .ok (.putfield 94, 3) := by decide +kernel
theorem d_PI_nest_23 : decode prog_1_method_13_code 23 = .ok (.aload_n 0, 1) := by decide +kernel
theorem d_PI_nest_24 : decode prog_1_method_13_code 24 = .ok (.getfield 86, 3) := by decide +kernel
theorem d_PI_nest_27 : decode prog_1_method_13_code 27 = .ok (.iload_n 1, 1) := by decide +kernel
theorem d_PI_nest_28 : decode prog_1_method_13_code 28 = .ok (.iload_n 2, 1) := by decide +kernel
theorem d_PI_nest_29 : decode prog_1_method_13_code 29 = .ok (.invokevirtual 193, 3) := by decide +kernel
theorem d_PI_nest_32 : decode prog_1_method_13_code 32 = .ok (.ireturn, 1) := by decide +kernel
theorem d_PI_order_0 : decode prog_1_method_12_code 0 = .ok (.aload_n 0, 1) := by decide +kernel
theorem d_PI_order_1 : decode prog_1_method_12_code 1 = .ok (.iload_n 1, 1) := by decide +kernel
theorem d_PI_order_2 : decode prog_1_method_12_code 2 = .ok (.invokevirtual 139, 3) := by decide +kernel
theorem d_PI_order_5 : decode prog_1_method_12_code 5 = .ok (.aload_n 0, 1) := by decide +kernel
theorem d_PI_order_6 : decode prog_1_method_12_code 6 = .ok (.getfield 64, 3) := by decide +kernel
theorem d_PI_order_9 : decode prog_1_method_12_code 9 = .ok (.iload_n 1, 1) := by decide +kernel
theorem d_PI_order_10 : decode prog_1_method_12_code 10 = .ok (.invokevirtual 190, 3) := by decide +kernel
theorem d_PI_order_13 : decode prog_1_method_12_code 13 = .ok (.ireturn, 1) := by decide +kernel
theorem d_PI_outline_0 : decode prog_1_method_8_code 0 = .ok (.aload_n 0, 1) := by decide +kernel
theorem d_PI_outline_1 : decode prog_1_method_8_code 1 = .ok (.iload_n 1, 1) := by decide +kernel
theorem d_PI_outline_2 : decode prog_1_method_8_code 2 = .ok (.invokevirtual 139, 3) := by decide +kernel
theorem d_PI_outline_5 : decode prog_1_method_8_code 5 = .ok (.aload_n 0, 1) := by decide +kernel
theorem d_PI_outline_6 : decode prog_1_method_8_code 6 = .ok (.getfield 72, 3) := by decide +kernel
theorem d_PI_outline_9 : decode prog_1_method_8_code 9 = .ok (.iload_n 1, 1) := by decide +kernel
theorem d_PI_outline_10 : decode prog_1_method_8_code 10 = .ok (.invokevirtual 168, 3) := by decide +kernel
theorem d_PI_outline_13 : decode prog_1_method_8_code 13 = .ok (.aload_n 0, 1) := by decide +kernel
theorem d_PI_outline_14 : decode prog_1_method_8_code 14 = .ok (.getfield 72, 3) := by decide +kernel
theorem d_PI_outline_17 : decode prog_1_method_8_code 17 = .ok (.getfield 171, 3) := by decide +kernel
theorem d_PI_outline_20 : decode prog_1_method_8_code 20 = .ok (.ireturn, 1) := by decide +kernel
theorem d_PI_part_0 : decode prog_1_method_4_code 0 = .ok (.iload_n 1, 1) := by decide +kernel
theorem d_PI_part_1 : decode prog_1_method_4_code 1 = .ok (.iconst 1, 1) := by decide +kernel
theorem d_PI_part_2 : decode prog_1_method_4_code 2 = .ok (.sipush 400, 3) := by decide +kernel
theorem d_PI_part_5 : decode prog_1_method_4_code 5 = .ok (.invokestatic 118, 3) := by decide +kernel
theorem d_PI_part_8 : decode prog_1_method_4_code 8 = .ok (.aload_n 0, 1) := by decide +kernel
theorem d_PI_part_9 : decode prog_1_method_4_code 9 = .ok (.getfield 46, 3) := by decide +kernel
theorem d_PI_part_12 : decode prog_1_method_4_code 12 = .ok (.aload_n 0, 1) := by decide +kernel
theorem d_PI_part_13 : decode prog_1_method_4_code 13 = .ok (.getfield 34, 3) := by decide +kernel
theorem d_PI_part_16 : decode prog_1_method_4_code 16 = .ok (.aload_n 0, 1) := by decide +kernel
theorem d_PI_part_17 : decode prog_1_method_4_code 17 = .ok (.getfield 38, 3) := by decide +kernel
theorem d_PI_part_20 : decode prog_1_method_4_code 20 = .ok (.aload_n 0, 1) := by decide +kernel
theorem d_PI_part_21 : decode prog_1_method_4_code 21 = .ok (.getfield 22, 3) := by decide +kernel
