theorem d_law_0 : decode code 0 = .ok (.new 8, 3) := by decide +kernel
theorem d_law_3 : decode code 3 = .ok (.dup, 1) := by decide +kernel
theorem d_law_4 : decode code 4 = .ok (.aload_n 0, 1) := by decide +kernel
theorem d_law_5 : decode code 5 = .ok (.iconst 0, 1) := by decide +kernel
theorem d_law_6 : decode code 6 = .ok (.invokestatic 66, 3) := by decide +kernel
theorem d_law_9 : decode code 9 = .ok (.aload_n 0, 1) := by decide +kernel
theorem d_law_10 : decode code 10 = .ok (.iconst 1, 1) := by decide +kernel
theorem d_law_11 : decode code 11 = .ok (.invokestatic 66, 3) := by decide +kernel
theorem d_law_14 : decode code 14 = .ok (.aload_n 0, 1) := by decide +kernel
theorem d_law_15 : decode code 15 = .ok (.iconst 2, 1) := by decide +kernel
theorem d_law_16 : decode code 16 = .ok (.invokestatic 66, 3) := by decide +kernel
theorem d_law_19 : decode code 19 = .ok (.invokespecial 72, 3) := by decide +kernel
theorem d_law_22 : decode code 22 = .ok (.astore_n 1, 1) := by decide +kernel
theorem d_law_23 : decode code 23 = .ok (.new 75, 3) := by decide +kernel
theorem d_law_26 : decode code 26 = .ok (.dup, 1) := by decide +kernel
theorem d_law_27 : decode code 27 = .ok (.aload_n 0, 1) := by decide +kernel
theorem d_law_28 : decode code 28 = .ok (.iconst 0, 1) := by decide +kernel
theorem d_law_29 : decode code 29 = .ok (.invokestatic 66, 3) := by decide +kernel
theorem d_law_32 : decode code 32 = .ok (.aload_n 0, 1) := by decide +kernel
theorem d_law_33 : decode code 33 = .ok (.iconst 1, 1) := by decide +kernel
theorem d_law_34 : decode code 34 = .ok (.invokestatic 66, 3) := by decide +kernel
theorem d_law_37 : decode code 37 = .ok (.aload_n 0, 1) := by decide +kernel
theorem d_law_38 : decode code 38 = .ok (.iconst 2, 1) := by decide +kernel
theorem d_law_39 : decode code 39 = .ok (.invokestatic 66, 3) := by decide +kernel
theorem d_law_42 : decode code 42 = .ok (.invokespecial 77, 3) := by decide +kernel
theorem d_law_45 : decode code 45 = .ok (.astore_n 2, 1) := by decide +kernel
theorem d_law_46 : decode code 46 = .ok (.iconst 1, 1) := by decide +kernel
theorem d_law_47 : decode code 47 = .ok (.newarray .long, 2) := by decide +kernel
theorem d_law_49 : decode code 49 = .ok (.astore_n 3, 1) := by decide +kernel
theorem d_law_50 : decode code 50 = .ok (.iconst 3, 1) := by decide +kernel
theorem d_law_51 : decode code 51 = .ok (.istore 4, 2) := by decide +kernel
theorem d_law_53 : decode code 53 = .ok (.iload 4, 2) := by decide +kernel
theorem d_law_55 : decode code 55 = .ok (.aload_n 0, 1) := by decide +kernel
theorem d_law_56 : decode code 56 = .ok (.arraylength, 1) := by decide +kernel
theorem d_law_57 : decode code 57 = .ok (.bipush 6, 2) := by decide +kernel
theorem d_law_59 : decode code 59 = .ok (.isub, 1) := by decide +kernel
theorem d_law_60 : decode code 60 = .ok (.if_icmp .gt 1179, 3) := by decide +kernel
theorem d_law_63 : decode code 63 = .ok (.aload_n 0, 1) := by decide +kernel
theorem d_law_64 : decode code 64 = .ok (.iload 4, 2) := by decide +kernel
theorem d_law_66 : decode code 66 = .ok (.iaload, 1) := by decide +kernel
theorem d_law_67 : decode code 67 = .ok (.bipush 15, 2) := by decide +kernel
theorem d_law_69 : decode code 69 = .ok (.iand, 1) := by decide +kernel
theorem d_law_70 : decode code 70 = .ok (.tableswitch 1163 0 14 #[74, 185, 284, 340, 408, 476, 544, 600, 680, 748, 835, 891, 959, 1027, 1107], 74) := by decide +kernel
theorem d_law_144 : decode code 144 = .ok (.aload_n 1, 1) := by decide +kernel
theorem d_law_145 : decode code 145 = .ok (.aload_n 0, 1) := by decide +kernel
theorem d_law_146 : decode code 146 = .ok (.iload 4, 2) := by decide +kernel
theorem d_law_148 : decode code 148 = .ok (.iconst 1, 1) := by decide +kernel
theorem d_law_149 : decode code 149 = .ok (.iadd, 1) := by decide +kernel
theorem d_law_150 : decode code 150 = .ok (.iaload, 1) := by decide +kernel
theorem d_law_151 : decode code 151 = .ok (.aload_n 0, 1) := by decide +kernel
theorem d_law_152 : decode code 152 = .ok (.iload 4, 2) := by decide +kernel
theorem d_law_154 : decode code 154 = .ok (.iconst 2, 1) := by decide +kernel
theorem d_law_155 : decode code 155 = .ok (.iadd, 1) := by decide +kernel
theorem d_law_156 : decode code 156 = .ok (.iaload, 1) := by decide +kernel
theorem d_law_157 : decode code 157 = .ok (.aload_n 0, 1) := by decide +kernel
theorem d_law_158 : decode code 158 = .ok (.iload 4, 2) := by decide +kernel
theorem d_law_160 : decode code 160 = .ok (.iconst 3, 1) := by decide +kernel
theorem d_law_161 : decode code 161 = .ok (.iadd, 1) := by decide +kernel
theorem d_law_162 : decode code 162 = .ok (.iaload, 1) := by decide +kernel
theorem d_law_163 : decode code 163 = .ok (.aload_n 0, 1) := by decide +kernel
