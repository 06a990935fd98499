theorem d_PI_part_24 : decode prog_1_method_4_code 24 = .ok (.iload_n 1, 1) := by decide +kernel
theorem d_PI_part_25 : decode prog_1_method_4_code 25 = .ok (.invokevirtual 121, 3) := by decide +kernel
theorem d_PI_part_28 : decode prog_1_method_4_code 28 = .ok (.aload_n 0, 1) := by decide +kernel
theorem d_PI_part_29 : decode prog_1_method_4_code 29 = .ok (.getfield 64, 3) := by decide +kernel
theorem d_PI_part_32 : decode prog_1_method_4_code 32 = .ok (.aload_n 0, 1) := by decide +kernel
theorem d_PI_part_33 : decode prog_1_method_4_code 33 = .ok (.getfield 46, 3) := by decide +kernel
theorem d_PI_part_36 : decode prog_1_method_4_code 36 = .ok (.getfield 125, 3) := by decide +kernel
theorem d_PI_part_39 : decode prog_1_method_4_code 39 = .ok (.invokevirtual 128, 3) := by decide +kernel
theorem d_PI_part_42 : decode prog_1_method_4_code 42 = .ok (.aload_n 0, 1) := by decide +kernel
theorem d_PI_part_43 : decode prog_1_method_4_code 43 = .ok (.iconst 1, 1) := by decide +kernel
theorem d_PI_part_44 : decode prog_1_method_4_code 44 = .ok (.putfield 90, 3) := by decide +kernel
theorem d_PI_part_47 : decode prog_1_method_4_code 47 = .ok (.aload_n 0, 1) := by decide +kernel
theorem d_PI_part_48 : decode prog_1_method_4_code 48 = .ok (.iconst 0, 1) := by decide +kernel
theorem d_PI_part_49 : decode prog_1_method_4_code 49 = .ok (.putfield 94, 3) := by decide +kernel
theorem d_PI_part_52 : decode prog_1_method_4_code 52 = .ok (.aload_n 0, 1) := by decide +kernel
theorem d_PI_part_53 : decode prog_1_method_4_code 53 = .ok (.getfield 46, 3) := by decide +kernel
theorem d_PI_part_56 : decode prog_1_method_4_code 56 = .ok (.getfield 125, 3) := by decide +kernel
theorem d_PI_part_59 : decode prog_1_method_4_code 59 = .ok (.ireturn, 1) := by decide +kernel
theorem d_PI_piece_0 : decode prog_1_method_6_code 0 = .ok (.aload_n 0, 1) := by decide +kernel
theorem d_PI_piece_1 : decode prog_1_method_6_code 1 = .ok (.iload_n 1, 1) := by decide +kernel
theorem d_PI_piece_2 : decode prog_1_method_6_code 2 = .ok (.invokevirtual 139, 3) := by decide +kernel
theorem d_PI_piece_5 : decode prog_1_method_6_code 5 = .ok (.iload_n 2, 1) := by decide +kernel
theorem d_PI_piece_6 : decode prog_1_method_6_code 6 = .ok (.iconst 0, 1) := by decide +kernel
theorem d_PI_piece_7 : decode prog_1_method_6_code 7 = .ok (.bipush 6, 2) := by decide +kernel
theorem d_PI_piece_9 : decode prog_1_method_6_code 9 = .ok (.invokestatic 118, 3) := by decide +kernel
theorem d_PI_piece_12 : decode prog_1_method_6_code 12 = .ok (.iload_n 2, 1) := by decide +kernel
theorem d_PI_piece_13 : decode prog_1_method_6_code 13 = .ok (.tableswitch 93 0 5 #[39, 48, 57, 66, 75, 84], 39) := by decide +kernel
theorem d_PI_piece_52 : decode prog_1_method_6_code 52 = .ok (.aload_n 0, 1) := by decide +kernel
theorem d_PI_piece_53 : decode prog_1_method_6_code 53 = .ok (.getfield 46, 3) := by decide +kernel
theorem d_PI_piece_56 : decode prog_1_method_6_code 56 = .ok (.iload_n 1, 1) := by decide +kernel
theorem d_PI_piece_57 : decode prog_1_method_6_code 57 = .ok (.invokevirtual 142, 3) := by decide +kernel
theorem d_PI_piece_60 : decode prog_1_method_6_code 60 = .ok (.ireturn, 1) := by decide +kernel
theorem d_PI_piece_61 : decode prog_1_method_6_code 61 = .ok (.aload_n 0, 1) := by decide +kernel
theorem d_PI_piece_62 : decode prog_1_method_6_code 62 = .ok (.getfield 46, 3) := by decide +kernel
theorem d_PI_piece_65 : decode prog_1_method_6_code 65 = .ok (.iload_n 1, 1) := by decide +kernel
theorem d_PI_piece_66 : decode prog_1_method_6_code 66 = .ok (.invokevirtual 146, 3) := by decide +kernel
theorem d_PI_piece_69 : decode prog_1_method_6_code 69 = .ok (.ireturn, 1) := by decide +kernel
theorem d_PI_piece_70 : decode prog_1_method_6_code 70 = .ok (.aload_n 0, 1) := by decide +kernel
theorem d_PI_piece_71 : decode prog_1_method_6_code 71 = .ok (.getfield 46, 3) := by decide +kernel
theorem d_PI_piece_74 : decode prog_1_method_6_code 74 = .ok (.iload_n 1, 1) := by decide +kernel
theorem d_PI_piece_75 : decode prog_1_method_6_code 75 = .ok (.invokevirtual 149, 3) := by decide +kernel
theorem d_PI_piece_78 : decode prog_1_method_6_code 78 = .ok (.ireturn, 1) := by decide +kernel
theorem d_PI_piece_79 : decode prog_1_method_6_code 79 = .ok (.aload_n 0, 1) := by decide +kernel
theorem d_PI_piece_80 : decode prog_1_method_6_code 80 = .ok (.getfield 46, 3) := by decide +kernel
theorem d_PI_piece_83 : decode prog_1_method_6_code 83 = .ok (.iload_n 1, 1) := by decide +kernel
theorem d_PI_piece_84 : decode prog_1_method_6_code 84 = .ok (.invokevirtual 152, 3) := by decide +kernel
theorem d_PI_piece_87 : decode prog_1_method_6_code 87 = .ok (.ireturn, 1) := by decide +kernel
theorem d_PI_piece_88 : decode prog_1_method_6_code 88 = .ok (.aload_n 0, 1) := by decide +kernel
theorem d_PI_piece_89 : decode prog_1_method_6_code 89 = .ok (.getfield 46, 3) := by decide +kernel
theorem d_PI_piece_92 : decode prog_1_method_6_code 92 = .ok (.iload_n 1, 1) := by decide +kernel
theorem d_PI_piece_93 : decode prog_1_method_6_code 93 = .ok (.invokevirtual 155, 3) := by decide +kernel
theorem d_PI_piece_96 : decode prog_1_method_6_code 96 = .ok (.ireturn, 1) := by decide +kernel
theorem d_PI_piece_97 : decode prog_1_method_6_code 97 = .ok (.aload_n 0, 1) := by decide +kernel
theorem d_PI_piece_98 : decode prog_1_method_6_code 98 = .ok (.getfield 46, 3) := by decide +kernel
theorem d_PI_piece_101 : decode prog_1_method_6_code 101 = .ok (.iload_n 1, 1) := by decide +kernel
theorem d_PI_piece_102 : decode prog_1_method_6_code 102 = .ok (.invokevirtual 158, 3) := by decide +kernel
theorem d_PI_piece_105 : decode prog_1_method_6_code 105 = .ok (.ireturn, 1) := by decide +kernel
theorem d_PI_piece_106 : decode prog_1_method_6_code 106 = .ok (.aload_n 0, 1) := by decide +kernel
theorem d_PI_piece_107 : decode prog_1_method_6_code 107 = .ok (.getfield 46, 3) := by decide +kernel
theorem d_PI_piece_110 : decode prog_1_method_6_code 110 = .ok (.iload_n 1, 1) := by decide +kernel
theorem d_PI_piece_111 : decode prog_1_method_6_code 111 = .ok (.invokevirtual 161, 3) := by decide +kernel
theorem d_PI_piece_114 : decode prog_1_method_6_code 114 = .ok (.ifCond .eq 7, 3) := by decide +kernel
theorem d_PI_piece_117 : decode prog_1_method_6_code 117 = .ok (.iconst 1, 1) := by decide +kernel
theorem d_PI_piece_118 : decode prog_1_method_6_code 118 = .ok (.goto 4, 3) := by decide +kernel
theorem d_PI_piece_121 : decode prog_1_method_6_code 121 = .ok (.iconst 0, 1) := by decide +kernel
theorem d_PI_piece_122 : decode prog_1_method_6_code 122 = .ok (.ireturn, 1) := by decide +kernel
theorem d_PI_pieceOf_0 : decode prog_1_method_5_code 0 = .ok (.aload_n 0, 1) := by decide +kernel
theorem d_PI_pieceOf_1 : decode prog_1_method_5_code 1 = .ok (.invokevirtual 133, 3) := by decide +kernel
theorem d_PI_pieceOf_4 : decode prog_1_method_5_code 4 = .ok (.aload_n 0, 1) := by decide +kernel
theorem d_PI_pieceOf_5 : decode prog_1_method_5_code 5 = .ok (.iload_n 1, 1) := by decide +kernel
theorem d_PI_pieceOf_6 : decode prog_1_method_5_code 6 = .ok (.iload_n 2, 1) := by decide +kernel
theorem d_PI_pieceOf_7 : decode prog_1_method_5_code 7 = .ok (.invokevirtual 97, 3) := by decide +kernel
theorem d_PI_pieceOf_10 : decode prog_1_method_5_code 10 = .ok (.aload_n 0, 1) := by decide +kernel
theorem d_PI_pieceOf_11 : decode prog_1_method_5_code 11 = .ok (.getfield 46, 3) := by decide +kernel
theorem d_PI_pieceOf_14 : decode prog_1_method_5_code 14 = .ok (.iload_n 1, 1) := by decide +kernel
theorem d_PI_pieceOf_15 : decode prog_1_method_5_code 15 = .ok (.iload_n 2, 1) := by decide +kernel
theorem d_PI_pieceOf_16 : decode prog_1_method_5_code 16 = .ok (.invokevirtual 136, 3) := by decide +kernel
theorem d_PI_pieceOf_19 : decode prog_1_method_5_code 19 = .ok (.ireturn, 1) := by decide +kernel
theorem d_PI_pixel_0 : decode prog_1_method_2_code 0 = .ok (.aload_n 0, 1) := by decide +kernel
theorem d_PI_pixel_1 : decode prog_1_method_2_code 1 = .ok (.iload_n 1, 1) := by decide +kernel
theorem d_PI_pixel_2 : decode prog_1_method_2_code 2 = .ok (.iload_n 2, 1) := by decide +kernel
theorem d_PI_pixel_3 : decode prog_1_method_2_code 3 = .ok (.invokevirtual 97, 3) := by decide +kernel
theorem d_PI_pixel_6 : decode prog_1_method_2_code 6 = .ok (.iload_n 3, 1) := by decide +kernel
theorem d_PI_pixel_7 : decode prog_1_method_2_code 7 = .ok (.iload 4, 2) := by decide +kernel
theorem d_PI_pixel_9 : decode prog_1_method_2_code 9 = .ok (.iload 5, 2) := by decide +kernel
theorem d_PI_pixel_11 : decode prog_1_method_2_code 11 = .ok (.invokestatic 100, 3) := by decide +kernel
theorem d_PI_pixel_14 : decode prog_1_method_2_code 14 = .ok (.aload_n 0, 1) := by decide +kernel
theorem d_PI_pixel_15 : decode prog_1_method_2_code 15 = .ok (.aload_n 0, 1) := by decide +kernel
theorem d_PI_pixel_16 : decode prog_1_method_2_code 16 = .ok (.getfield 34, 3) := by decide +kernel
theorem d_PI_pixel_19 : decode prog_1_method_2_code 19 = .ok (.aload_n 0, 1) := by decide +kernel
theorem d_PI_pixel_20 : decode prog_1_method_2_code 20 = .ok (.getfield 18, 3) := by decide +kernel
theorem d_PI_pixel_23 : decode prog_1_method_2_code 23 = .ok (.iload_n 1, 1) := by decide +kernel
theorem d_PI_pixel_24 : decode prog_1_method_2_code 24 = .ok (.iload_n 2, 1) := by decide +kernel
theorem d_PI_pixel_25 : decode prog_1_method_2_code 25 = .ok (.invokevirtual 104, 3) := by decide +kernel
theorem d_PI_pixel_28 : decode prog_1_method_2_code 28 = .ok (.iload_n 3, 1) := by decide +kernel
theorem d_PI_pixel_29 : decode prog_1_method_2_code 29 = .ok (.iload 4, 2) := by decide +kernel
theorem d_PI_pixel_31 : decode prog_1_method_2_code 31 = .ok (.iload 5, 2) := by decide +kernel
theorem d_PI_pixel_33 : decode prog_1_method_2_code 33 = .ok (.invokevirtual 107, 3) := by decide +kernel
theorem d_PI_pixel_36 : decode prog_1_method_2_code 36 = .ok (.invokevirtual 111, 3) := by decide +kernel
theorem d_PI_pixel_39 : decode prog_1_method_2_code 39 = .ok (.ireturn, 1) := by decide +kernel
theorem d_PI_reached_0 : decode prog_1_method_11_code 0 = .ok (.aload_n 0, 1) := by decide +kernel
theorem d_PI_reached_1 : decode prog_1_method_11_code 1 = .ok (.invokevirtual 133, 3) := by decide +kernel
theorem d_PI_reached_4 : decode prog_1_method_11_code 4 = .ok (.aload_n 0, 1) := by decide +kernel
theorem d_PI_reached_5 : decode prog_1_method_11_code 5 = .ok (.iload_n 1, 1) := by decide +kernel
theorem d_PI_reached_6 : decode prog_1_method_11_code 6 = .ok (.iload_n 2, 1) := by decide +kernel
theorem d_PI_reached_7 : decode prog_1_method_11_code 7 = .ok (.invokevirtual 97, 3) := by decide +kernel
theorem d_PI_reached_10 : decode prog_1_method_11_code 10 = .ok (.iload_n 3, 1) := by decide +kernel
theorem d_PI_reached_11 : decode prog_1_method_11_code 11 = .ok (.iconst 0, 1) := by decide +kernel
theorem d_PI_reached_12 : decode prog_1_method_11_code 12 = .ok (.bipush 10, 2) := by decide +kernel
theorem d_PI_reached_14 : decode prog_1_method_11_code 14 = .ok (.invokestatic 118, 3) := by decide +kernel
theorem d_PI_reached_17 : decode prog_1_method_11_code 17 = .ok (.aload_n 0, 1) := by decide +kernel
theorem d_PI_reached_18 : decode prog_1_method_11_code 18 = .ok (.getfield 79, 3) := by decide +kernel
theorem d_PI_reached_21 : decode prog_1_method_11_code 21 = .ok (.aload_n 0, 1) := by decide +kernel
theorem d_PI_reached_22 : decode prog_1_method_11_code 22 = .ok (.getfield 46, 3) := by decide +kernel
theorem d_PI_reached_25 : decode prog_1_method_11_code 25 = .ok (.iload_n 1, 1) := by decide +kernel
theorem d_PI_reached_26 : decode prog_1_method_11_code 26 = .ok (.iload_n 2, 1) := by decide +kernel
theorem d_PI_reached_27 : decode prog_1_method_11_code 27 = .ok (.invokevirtual 136, 3) := by decide +kernel
theorem d_PI_reached_30 : decode prog_1_method_11_code 30 = .ok (.iload_n 3, 1) := by decide +kernel
theorem d_PI_reached_31 : decode prog_1_method_11_code 31 = .ok (.invokevirtual 180, 3) := by decide +kernel
theorem d_PI_reached_34 : decode prog_1_method_11_code 34 = .ok (.aload_n 0, 1) := by decide +kernel
theorem d_PI_reached_35 : decode prog_1_method_11_code 35 = .ok (.getfield 79, 3) := by decide +kernel
theorem d_PI_reached_38 : decode prog_1_method_11_code 38 = .ok (.iload_n 1, 1) := by decide +kernel
theorem d_PI_reached_39 : decode prog_1_method_11_code 39 = .ok (.iload_n 2, 1) := by decide +kernel
theorem d_PI_reached_40 : decode prog_1_method_11_code 40 = .ok (.invokevirtual 186, 3) := by decide +kernel
theorem d_PI_reached_43 : decode prog_1_method_11_code 43 = .ok (.ireturn, 1) := by decide +kernel
theorem d_PI_sorted_0 : decode prog_1_method_16_code 0 = .ok (.iload_n 1, 1) := by decide +kernel
theorem d_PI_sorted_1 : decode prog_1_method_16_code 1 = .ok (.aload_n 0, 1) := by decide +kernel
theorem d_PI_sorted_2 : decode prog_1_method_16_code 2 = .ok (.getfield 22, 3) := by decide +kernel
theorem d_PI_sorted_5 : decode prog_1_method_16_code 5 = .ok (.invokestatic 115, 3) := by decide +kernel
theorem d_PI_sorted_8 : decode prog_1_method_16_code 8 = .ok (.aload_n 0, 1) := by decide +kernel
theorem d_PI_sorted_9 : decode prog_1_method_16_code 9 = .ok (.getfield 55, 3) := by decide +kernel
theorem d_PI_sorted_12 : decode prog_1_method_16_code 12 = .ok (.aload_n 0, 1) := by decide +kernel
theorem d_PI_sorted_13 : decode prog_1_method_16_code 13 = .ok (.getfield 22, 3) := by decide +kernel
theorem d_PI_sorted_16 : decode prog_1_method_16_code 16 = .ok (.invokevirtual 128, 3) := by decide +kernel
theorem d_PI_sorted_19 : decode prog_1_method_16_code 19 = .ok (.aload_n 0, 1) := by decide +kernel
theorem d_PI_sorted_20 : decode prog_1_method_16_code 20 = .ok (.getfield 55, 3) := by decide +kernel
theorem d_PI_sorted_23 : decode prog_1_method_16_code 23 = .ok (.iload_n 1, 1) := by decide +kernel
theorem d_PI_sorted_24 : decode prog_1_method_16_code 24 = .ok (.invokevirtual 190, 3) := by decide +kernel
theorem d_PI_sorted_27 : decode prog_1_method_16_code 27 = .ok (.ireturn, 1) := by decide +kernel
theorem d_PI_told_0 : decode prog_1_method_19_code 0 = .ok (.iload_n 1, 1) := by decide +kernel
theorem d_PI_told_1 : decode prog_1_method_19_code 1 = .ok (.ifCond .eq 13, 3) := by decide +kernel
theorem d_PI_told_4 : decode prog_1_method_19_code 4 = .ok (.aload_n 0, 1) := by decide +kernel
theorem d_PI_told_5 : decode prog_1_method_19_code 5 = .ok (.iconst 0, 1) := by decide +kernel
theorem d_PI_told_6 : decode prog_1_method_19_code 6 = .ok (.putfield 90, 3) := by decide +kernel
theorem d_PI_told_9 : decode prog_1_method_19_code 9 = .ok (.aload_n 0, 1) := by decide +kernel
theorem d_PI_told_10 : decode prog_1_method_19_code 10 = .ok (.iconst 0, 1) := by decide +kernel
theorem d_PI_told_11 : decode prog_1_method_19_code 11 = .ok (.putfield 94, 3) := by decide +kernel
theorem d_PI_told_14 : decode prog_1_method_19_code 14 = .ok (.iload_n 1, 1) := by decide +kernel
theorem d_PI_told_15 : decode prog_1_method_19_code 15 = .ok (.ireturn, 1) := by decide +kernel
theorem d_Brightest_compare_0 : decode prog_2_method_2_code 0 = .ok (.aload_n 0, 1) := by decide +kernel
theorem d_Brightest_compare_1 : decode prog_2_method_2_code 1 = .ok (.getfield 7, 3) := by decide +kernel
theorem d_Brightest_compare_4 : decode prog_2_method_2_code 4 = .ok (.iload_n 2, 1) := by decide +kernel
theorem d_Brightest_compare_5 : decode prog_2_method_2_code 5 = .ok (.invokevirtual 13, 3) := by decide +kernel
theorem d_Brightest_compare_8 : decode prog_2_method_2_code 8 = .ok (.aload_n 0, 1) := by decide +kernel
theorem d_Brightest_compare_9 : decode prog_2_method_2_code 9 = .ok (.getfield 7, 3) := by decide +kernel
theorem d_Brightest_compare_12 : decode prog_2_method_2_code 12 = .ok (.iload_n 1, 1) := by decide +kernel
theorem d_Brightest_compare_13 : decode prog_2_method_2_code 13 = .ok (.invokevirtual 13, 3) := by decide +kernel
theorem d_Brightest_compare_16 : decode prog_2_method_2_code 16 = .ok (.invokestatic 19, 3) := by decide +kernel
theorem d_Brightest_compare_19 : decode prog_2_method_2_code 19 = .ok (.ireturn, 1) := by decide +kernel
theorem d_Colours_brightness_0 : decode prog_3_method_4_code 0 = .ok (.iconst 2, 1) := by decide +kernel
theorem d_Colours_brightness_1 : decode prog_3_method_4_code 1 = .ok (.aload_n 0, 1) := by decide +kernel
theorem d_Colours_brightness_2 : decode prog_3_method_4_code 2 = .ok (.getfield 7, 3) := by decide +kernel
theorem d_Colours_brightness_5 : decode prog_3_method_4_code 5 = .ok (.iload_n 1, 1) := by decide +kernel
theorem d_Colours_brightness_6 : decode prog_3_method_4_code 6 = .ok (.iaload, 1) := by decide +kernel
theorem d_Colours_brightness_7 : decode prog_3_method_4_code 7 = .ok (.imul, 1) := by decide +kernel
theorem d_Colours_brightness_8 : decode prog_3_method_4_code 8 = .ok (.iconst 5, 1) := by decide +kernel
theorem d_Colours_brightness_9 : decode prog_3_method_4_code 9 = .ok (.aload_n 0, 1) := by decide +kernel
theorem d_Colours_brightness_10 : decode prog_3_method_4_code 10 = .ok (.getfield 13, 3) := by decide +kernel
theorem d_Colours_brightness_13 : decode prog_3_method_4_code 13 = .ok (.iload_n 1, 1) := by decide +kernel
theorem d_Colours_brightness_14 : decode prog_3_method_4_code 14 = .ok (.iaload, 1) := by decide +kernel
theorem d_Colours_brightness_15 : decode prog_3_method_4_code 15 = .ok (.imul, 1) := by decide +kernel
theorem d_Colours_brightness_16 : decode prog_3_method_4_code 16 = .ok (.iadd, 1) := by decide +kernel
theorem d_Colours_brightness_17 : decode prog_3_method_4_code 17 = .ok (.aload_n 0, 1) := by decide +kernel
theorem d_Colours_brightness_18 : decode prog_3_method_4_code 18 = .ok (.getfield 16, 3) := by decide +kernel
theorem d_Colours_brightness_21 : decode prog_3_method_4_code 21 = .ok (.iload_n 1, 1) := by decide +kernel
theorem d_Colours_brightness_22 : decode prog_3_method_4_code 22 = .ok (.iaload, 1) := by decide +kernel
theorem d_Colours_brightness_23 : decode prog_3_method_4_code 23 = .ok (.iadd, 1) := by decide +kernel
theorem d_Colours_brightness_24 : decode prog_3_method_4_code 24 = .ok (.ireturn, 1) := by decide +kernel
theorem d_Colours_distance_0 : decode prog_3_method_3_code 0 = .ok (.aload_n 0, 1) := by decide +kernel
theorem d_Colours_distance_1 : decode prog_3_method_3_code 1 = .ok (.getfield 7, 3) := by decide +kernel
theorem d_Colours_distance_4 : decode prog_3_method_3_code 4 = .ok (.iload_n 1, 1) := by decide +kernel
theorem d_Colours_distance_5 : decode prog_3_method_3_code 5 = .ok (.iaload, 1) := by decide +kernel
theorem d_Colours_distance_6 : decode prog_3_method_3_code 6 = .ok (.aload_n 2, 1) := by decide +kernel
theorem d_Colours_distance_7 : decode prog_3_method_3_code 7 = .ok (.getfield 7, 3) := by decide +kernel
theorem d_Colours_distance_10 : decode prog_3_method_3_code 10 = .ok (.iload_n 3, 1) := by decide +kernel
theorem d_Colours_distance_11 : decode prog_3_method_3_code 11 = .ok (.iaload, 1) := by decide +kernel
theorem d_Colours_distance_12 : decode prog_3_method_3_code 12 = .ok (.isub, 1) := by decide +kernel
theorem d_Colours_distance_13 : decode prog_3_method_3_code 13 = .ok (.invokestatic 19, 3) := by decide +kernel
theorem d_Colours_distance_16 : decode prog_3_method_3_code 16 = .ok (.aload_n 0, 1) := by decide +kernel
theorem d_Colours_distance_17 : decode prog_3_method_3_code 17 = .ok (.getfield 13, 3) := by decide +kernel
theorem d_Colours_distance_20 : decode prog_3_method_3_code 20 = .ok (.iload_n 1, 1) := by decide +kernel
theorem d_Colours_distance_21 : decode prog_3_method_3_code 21 = .ok (.iaload, 1) := by decide +kernel
theorem d_Colours_distance_22 : decode prog_3_method_3_code 22 = .ok (.aload_n 2, 1) := by decide +kernel
theorem d_Colours_distance_23 : decode prog_3_method_3_code 23 = .ok (.getfield 13, 3) := by decide +kernel
theorem d_Colours_distance_26 : decode prog_3_method_3_code 26 = .ok (.iload_n 3, 1) := by decide +kernel
theorem d_Colours_distance_27 : decode prog_3_method_3_code 27 = .ok (.iaload, 1) := by decide +kernel
theorem d_Colours_distance_28 : decode prog_3_method_3_code 28 = .ok (.isub, 1) := by decide +kernel
theorem d_Colours_distance_29 : decode prog_3_method_3_code 29 = .ok (.invokestatic 19, 3) := by decide +kernel
theorem d_Colours_distance_32 : decode prog_3_method_3_code 32 = .ok (.iadd, 1) := by decide +kernel
theorem d_Colours_distance_33 : decode prog_3_method_3_code 33 = .ok (.aload_n 0, 1) := by decide +kernel
theorem d_Colours_distance_34 : decode prog_3_method_3_code 34 = .ok (.getfield 16, 3) := by decide +kernel
theorem d_Colours_distance_37 : decode prog_3_method_3_code 37 = .ok (.iload_n 1, 1) := by decide +kernel
theorem d_Colours_distance_38 : decode prog_3_method_3_code 38 = .ok (.iaload, 1) := by decide +kernel
theorem d_Colours_distance_39 : decode prog_3_method_3_code 39 = .ok (.aload_n 2, 1) := by decide +kernel
theorem d_Colours_distance_40 : decode prog_3_method_3_code 40 = .ok (.getfield 16, 3) := by decide +kernel
theorem d_Colours_distance_43 : decode prog_3_method_3_code 43 = .ok (.iload_n 3, 1) := by decide +kernel
theorem d_Colours_distance_44 : decode prog_3_method_3_code 44 = .ok (.iaload, 1) := by decide +kernel
theorem d_Colours_distance_45 : decode prog_3_method_3_code 45 = .ok (.isub, 1) := by decide +kernel
theorem d_Colours_distance_46 : decode prog_3_method_3_code 46 = .ok (.invokestatic 19, 3) := by decide +kernel
theorem d_Colours_distance_49 : decode prog_3_method_3_code 49 = .ok (.iadd, 1) := by decide +kernel
theorem d_Colours_distance_50 : decode prog_3_method_3_code 50 = .ok (.ireturn, 1) := by decide +kernel
theorem d_Colours_tell_0 : decode prog_3_method_2_code 0 = .ok (.iload_n 1, 1) := by decide +kernel
theorem d_Colours_tell_1 : decode prog_3_method_2_code 1 = .ok (.ifCond .lt 43, 3) := by decide +kernel
theorem d_Colours_tell_4 : decode prog_3_method_2_code 4 = .ok (.iload_n 1, 1) := by decide +kernel
theorem d_Colours_tell_5 : decode prog_3_method_2_code 5 = .ok (.aload_n 0, 1) := by decide +kernel
theorem d_Colours_tell_6 : decode prog_3_method_2_code 6 = .ok (.getfield 7, 3) := by decide +kernel
theorem d_Colours_tell_9 : decode prog_3_method_2_code 9 = .ok (.arraylength, 1) := by decide +kernel
theorem d_Colours_tell_10 : decode prog_3_method_2_code 10 = .ok (.if_icmp .ge 34, 3) := by decide +kernel
theorem d_Colours_tell_13 : decode prog_3_method_2_code 13 = .ok (.aload_n 0, 1) := by decide +kernel
theorem d_Colours_tell_14 : decode prog_3_method_2_code 14 = .ok (.getfield 7, 3) := by decide +kernel
theorem d_Colours_tell_17 : decode prog_3_method_2_code 17 = .ok (.iload_n 1, 1) := by decide +kernel
theorem d_Colours_tell_18 : decode prog_3_method_2_code 18 = .ok (.iaload, 1) := by decide +kernel
theorem d_Colours_tell_19 : decode prog_3_method_2_code 19 = .ok (.iload_n 2, 1) := by decide +kernel
theorem d_Colours_tell_20 : decode prog_3_method_2_code 20 = .ok (.if_icmp .ne 26, 3) := by decide +kernel
theorem d_Colours_tell_23 : decode prog_3_method_2_code 23 = .ok (.aload_n 0, 1) := by decide +kernel
theorem d_Colours_tell_24 : decode prog_3_method_2_code 24 = .ok (.getfield 13, 3) := by decide +kernel
theorem d_Colours_tell_27 : decode prog_3_method_2_code 27 = .ok (.iload_n 1, 1) := by decide +kernel
theorem d_Colours_tell_28 : decode prog_3_method_2_code 28 = .ok (.iaload, 1) := by decide +kernel
theorem d_Colours_tell_29 : decode prog_3_method_2_code 29 = .ok (.iload_n 3, 1) := by decide +kernel
theorem d_Colours_tell_30 : decode prog_3_method_2_code 30 = .ok (.if_icmp .ne 16, 3) := by decide +kernel
theorem d_Colours_tell_33 : decode prog_3_method_2_code 33 = .ok (.aload_n 0, 1) := by decide +kernel
theorem d_Colours_tell_34 : decode prog_3_method_2_code 34 = .ok (.getfield 16, 3) := by decide +kernel
theorem d_Colours_tell_37 : decode prog_3_method_2_code 37 = .ok (.iload_n 1, 1) := by decide +kernel
theorem d_Colours_tell_38 : decode prog_3_method_2_code 38 = .ok (.iaload, 1) := by decide +kernel
theorem d_Colours_tell_39 : decode prog_3_method_2_code 39 = .ok (.iload 4, 2) := by decide +kernel
theorem d_Colours_tell_41 : decode prog_3_method_2_code 41 = .ok (.if_icmp .ne 5, 3) := by decide +kernel
theorem d_Colours_tell_44 : decode prog_3_method_2_code 44 = .ok (.iconst 0, 1) := by decide +kernel
theorem d_Colours_tell_45 : decode prog_3_method_2_code 45 = .ok (.ireturn, 1) := by decide +kernel
theorem d_Colours_tell_46 : decode prog_3_method_2_code 46 = .ok (.aload_n 0, 1) := by decide +kernel
theorem d_Colours_tell_47 : decode prog_3_method_2_code 47 = .ok (.getfield 7, 3) := by decide +kernel
theorem d_Colours_tell_50 : decode prog_3_method_2_code 50 = .ok (.iload_n 1, 1) := by decide +kernel
theorem d_Colours_tell_51 : decode prog_3_method_2_code 51 = .ok (.iload_n 2, 1) := by decide +kernel
theorem d_Colours_tell_52 : decode prog_3_method_2_code 52 = .ok (.iastore, 1) := by decide +kernel
theorem d_Colours_tell_53 : decode prog_3_method_2_code 53 = .ok (.aload_n 0, 1) := by decide +kernel
theorem d_Colours_tell_54 : decode prog_3_method_2_code 54 = .ok (.getfield 13, 3) := by decide +kernel
theorem d_Colours_tell_57 : decode prog_3_method_2_code 57 = .ok (.iload_n 1, 1) := by decide +kernel
theorem d_Colours_tell_58 : decode prog_3_method_2_code 58 = .ok (.iload_n 3, 1) := by decide +kernel
theorem d_Colours_tell_59 : decode prog_3_method_2_code 59 = .ok (.iastore, 1) := by decide +kernel
theorem d_Colours_tell_60 : decode prog_3_method_2_code 60 = .ok (.aload_n 0, 1) := by decide +kernel
theorem d_Colours_tell_61 : decode prog_3_method_2_code 61 = .ok (.getfield 16, 3) := by decide +kernel
theorem d_Colours_tell_64 : decode prog_3_method_2_code 64 = .ok (.iload_n 1, 1) := by decide +kernel
theorem d_Colours_tell_65 : decode prog_3_method_2_code 65 = .ok (.iload 4, 2) := by decide +kernel
theorem d_Colours_tell_67 : decode prog_3_method_2_code 67 = .ok (.iastore, 1) := by decide +kernel
theorem d_Colours_tell_68 : decode prog_3_method_2_code 68 = .ok (.iconst 1, 1) := by decide +kernel
theorem d_Colours_tell_69 : decode prog_3_method_2_code 69 = .ok (.ireturn, 1) := by decide +kernel
theorem d_Grid_besideOf_0 : decode prog_4_method_5_code 0 = .ok (.aload_n 0, 1) := by decide +kernel
theorem d_Grid_besideOf_1 : decode prog_4_method_5_code 1 = .ok (.getfield 28, 3) := by decide +kernel
theorem d_Grid_besideOf_4 : decode prog_4_method_5_code 4 = .ok (.iload_n 1, 1) := by decide +kernel
theorem d_Grid_besideOf_5 : decode prog_4_method_5_code 5 = .ok (.iconst 4, 1) := by decide +kernel
theorem d_Grid_besideOf_6 : decode prog_4_method_5_code 6 = .ok (.imul, 1) := by decide +kernel
theorem d_Grid_besideOf_7 : decode prog_4_method_5_code 7 = .ok (.iload_n 2, 1) := by decide +kernel
theorem d_Grid_besideOf_8 : decode prog_4_method_5_code 8 = .ok (.iadd, 1) := by decide +kernel
theorem d_Grid_besideOf_9 : decode prog_4_method_5_code 9 = .ok (.iaload, 1) := by decide +kernel
theorem d_Grid_besideOf_10 : decode prog_4_method_5_code 10 = .ok (.ireturn, 1) := by decide +kernel
theorem d_Grid_columnOf_0 : decode prog_4_method_3_code 0 = .ok (.aload_n 0, 1) := by decide +kernel
theorem d_Grid_columnOf_1 : decode prog_4_method_3_code 1 = .ok (.getfield 21, 3) := by decide +kernel
theorem d_Grid_columnOf_4 : decode prog_4_method_3_code 4 = .ok (.iload_n 1, 1) := by decide +kernel
theorem d_Grid_columnOf_5 : decode prog_4_method_3_code 5 = .ok (.iaload, 1) := by decide +kernel
theorem d_Grid_columnOf_6 : decode prog_4_method_3_code 6 = .ok (.ireturn, 1) := by decide +kernel
theorem d_Grid_placeOf_0 : decode prog_4_method_2_code 0 = .ok (.iload_n 1, 1) := by decide +kernel
theorem d_Grid_placeOf_1 : decode prog_4_method_2_code 1 = .ok (.ifCond .lt 27, 3) := by decide +kernel
theorem d_Grid_placeOf_4 : decode prog_4_method_2_code 4 = .ok (.iload_n 1, 1) := by decide +kernel
theorem d_Grid_placeOf_5 : decode prog_4_method_2_code 5 = .ok (.aload_n 0, 1) := by decide +kernel
theorem d_Grid_placeOf_6 : decode prog_4_method_2_code 6 = .ok (.getfield 9, 3) := by decide +kernel
theorem d_Grid_placeOf_9 : decode prog_4_method_2_code 9 = .ok (.if_icmp .ge 19, 3) := by decide +kernel
theorem d_Grid_placeOf_12 : decode prog_4_method_2_code 12 = .ok (.iload_n 2, 1) := by decide +kernel
theorem d_Grid_placeOf_13 : decode prog_4_method_2_code 13 = .ok (.ifCond .lt 15, 3) := by decide +kernel
theorem d_Grid_placeOf_16 : decode prog_4_method_2_code 16 = .ok (.iload_n 2, 1) := by decide +kernel
theorem d_Grid_placeOf_17 : decode prog_4_method_2_code 17 = .ok (.aload_n 0, 1) := by decide +kernel
theorem d_Grid_placeOf_18 : decode prog_4_method_2_code 18 = .ok (.getfield 15, 3) := by decide +kernel
theorem d_Grid_placeOf_21 : decode prog_4_method_2_code 21 = .ok (.if_icmp .ge 7, 3) := by decide +kernel
theorem d_Grid_placeOf_24 : decode prog_4_method_2_code 24 = .ok (.iconst 1, 1) := by decide +kernel
theorem d_Grid_placeOf_25 : decode prog_4_method_2_code 25 = .ok (.goto 4, 3) := by decide +kernel
theorem d_Grid_placeOf_28 : decode prog_4_method_2_code 28 = .ok (.iconst 0, 1) := by decide +kernel
theorem d_Grid_placeOf_29 : decode prog_4_method_2_code 29 = .ok (.istore_n 3, 1) := by decide +kernel
theorem d_Grid_placeOf_30 : decode prog_4_method_2_code 30 = .ok (.iload_n 3, 1) := by decide +kernel
theorem d_Grid_placeOf_31 : decode prog_4_method_2_code 31 = .ok (.ifCond .eq 14, 3) := by decide +kernel
theorem d_Grid_placeOf_34 : decode prog_4_method_2_code 34 = .ok (.iload_n 2, 1) := by decide +kernel
theorem d_Grid_placeOf_35 : decode prog_4_method_2_code 35 = .ok (.aload_n 0, 1) := by decide +kernel
theorem d_Grid_placeOf_36 : decode prog_4_method_2_code 36 = .ok (.getfield 9, 3) := by decide +kernel
theorem d_Grid_placeOf_39 : decode prog_4_method_2_code 39 = .ok (.imul, 1) := by decide +kernel
theorem d_Grid_placeOf_40 : decode prog_4_method_2_code 40 = .ok (.iload_n 1, 1) := by decide +kernel
theorem d_Grid_placeOf_41 : decode prog_4_method_2_code 41 = .ok (.iadd, 1) := by decide +kernel
theorem d_Grid_placeOf_42 : decode prog_4_method_2_code 42 = .ok (.goto 4, 3) := by decide +kernel
theorem d_Grid_placeOf_45 : decode prog_4_method_2_code 45 = .ok (.iconst (-1), 1) := by decide +kernel
theorem d_Grid_placeOf_46 : decode prog_4_method_2_code 46 = .ok (.ireturn, 1) := by decide +kernel
theorem d_Grid_rowOf_0 : decode prog_4_method_4_code 0 = .ok (.aload_n 0, 1) := by decide +kernel
theorem d_Grid_rowOf_1 : decode prog_4_method_4_code 1 = .ok (.getfield 25, 3) := by decide +kernel
theorem d_Grid_rowOf_4 : decode prog_4_method_4_code 4 = .ok (.iload_n 1, 1) := by decide +kernel
theorem d_Grid_rowOf_5 : decode prog_4_method_4_code 5 = .ok (.iaload, 1) := by decide +kernel
