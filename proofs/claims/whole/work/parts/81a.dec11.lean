theorem d_law_1067 : decode code 1067 = .ok (.invokevirtual 82, 3) := by decide +kernel
theorem d_law_1070 : decode code 1070 = .ok (.iload 5, 2) := by decide +kernel
theorem d_law_1072 : decode code 1072 = .ok (.if_icmp .eq 5, 3) := by decide +kernel
theorem d_law_1075 : decode code 1075 = .ok (.iconst 0, 1) := by decide +kernel
theorem d_law_1076 : decode code 1076 = .ok (.ireturn, 1) := by decide +kernel
theorem d_law_1077 : decode code 1077 = .ok (.iload 5, 2) := by decide +kernel
theorem d_law_1079 : decode code 1079 = .ok (.ifCond .ne 15, 3) := by decide +kernel
theorem d_law_1082 : decode code 1082 = .ok (.aload_n 3, 1) := by decide +kernel
theorem d_law_1083 : decode code 1083 = .ok (.iconst 0, 1) := by decide +kernel
theorem d_law_1084 : decode code 1084 = .ok (.laload, 1) := by decide +kernel
theorem d_law_1085 : decode code 1085 = .ok (.iload 6, 2) := by decide +kernel
theorem d_law_1087 : decode code 1087 = .ok (.i2l, 1) := by decide +kernel
theorem d_law_1088 : decode code 1088 = .ok (.lcmp, 1) := by decide +kernel
theorem d_law_1089 : decode code 1089 = .ok (.ifCond .eq 5, 3) := by decide +kernel
theorem d_law_1092 : decode code 1092 = .ok (.iconst 0, 1) := by decide +kernel
theorem d_law_1093 : decode code 1093 = .ok (.ireturn, 1) := by decide +kernel
theorem d_law_1094 : decode code 1094 = .ok (.goto 139, 3) := by decide +kernel
theorem d_law_1097 : decode code 1097 = .ok (.aload_n 1, 1) := by decide +kernel
theorem d_law_1098 : decode code 1098 = .ok (.aload_n 0, 1) := by decide +kernel
theorem d_law_1099 : decode code 1099 = .ok (.iload 4, 2) := by decide +kernel
theorem d_law_1101 : decode code 1101 = .ok (.iconst 1, 1) := by decide +kernel
theorem d_law_1102 : decode code 1102 = .ok (.iadd, 1) := by decide +kernel
theorem d_law_1103 : decode code 1103 = .ok (.iaload, 1) := by decide +kernel
theorem d_law_1104 : decode code 1104 = .ok (.aload_n 0, 1) := by decide +kernel
theorem d_law_1105 : decode code 1105 = .ok (.iload 4, 2) := by decide +kernel
theorem d_law_1107 : decode code 1107 = .ok (.iconst 2, 1) := by decide +kernel
theorem d_law_1108 : decode code 1108 = .ok (.iadd, 1) := by decide +kernel
theorem d_law_1109 : decode code 1109 = .ok (.iaload, 1) := by decide +kernel
theorem d_law_1110 : decode code 1110 = .ok (.aload_n 0, 1) := by decide +kernel
theorem d_law_1111 : decode code 1111 = .ok (.iload 4, 2) := by decide +kernel
theorem d_law_1113 : decode code 1113 = .ok (.iconst 3, 1) := by decide +kernel
theorem d_law_1114 : decode code 1114 = .ok (.iadd, 1) := by decide +kernel
theorem d_law_1115 : decode code 1115 = .ok (.iaload, 1) := by decide +kernel
theorem d_law_1116 : decode code 1116 = .ok (.aload_n 3, 1) := by decide +kernel
theorem d_law_1117 : decode code 1117 = .ok (.invokestatic 126, 3) := by decide +kernel
theorem d_law_1120 : decode code 1120 = .ok (.istore 5, 2) := by decide +kernel
theorem d_law_1122 : decode code 1122 = .ok (.aload_n 2, 1) := by decide +kernel
theorem d_law_1123 : decode code 1123 = .ok (.aload_n 0, 1) := by decide +kernel
theorem d_law_1124 : decode code 1124 = .ok (.iload 4, 2) := by decide +kernel
theorem d_law_1126 : decode code 1126 = .ok (.iconst 1, 1) := by decide +kernel
theorem d_law_1127 : decode code 1127 = .ok (.iadd, 1) := by decide +kernel
theorem d_law_1128 : decode code 1128 = .ok (.iaload, 1) := by decide +kernel
theorem d_law_1129 : decode code 1129 = .ok (.aload_n 0, 1) := by decide +kernel
theorem d_law_1130 : decode code 1130 = .ok (.iload 4, 2) := by decide +kernel
theorem d_law_1132 : decode code 1132 = .ok (.iconst 2, 1) := by decide +kernel
theorem d_law_1133 : decode code 1133 = .ok (.iadd, 1) := by decide +kernel
theorem d_law_1134 : decode code 1134 = .ok (.iaload, 1) := by decide +kernel
theorem d_law_1135 : decode code 1135 = .ok (.aload_n 0, 1) := by decide +kernel
theorem d_law_1136 : decode code 1136 = .ok (.iload 4, 2) := by decide +kernel
theorem d_law_1138 : decode code 1138 = .ok (.iconst 3, 1) := by decide +kernel
theorem d_law_1139 : decode code 1139 = .ok (.iadd, 1) := by decide +kernel
theorem d_law_1140 : decode code 1140 = .ok (.iaload, 1) := by decide +kernel
theorem d_law_1141 : decode code 1141 = .ok (.invokevirtual 128, 3) := by decide +kernel
theorem d_law_1144 : decode code 1144 = .ok (.istore 6, 2) := by decide +kernel
theorem d_law_1146 : decode code 1146 = .ok (.aload_n 2, 1) := by decide +kernel
theorem d_law_1147 : decode code 1147 = .ok (.invokevirtual 82, 3) := by decide +kernel
theorem d_law_1150 : decode code 1150 = .ok (.iload 5, 2) := by decide +kernel
theorem d_law_1152 : decode code 1152 = .ok (.if_icmp .eq 5, 3) := by decide +kernel
theorem d_law_1155 : decode code 1155 = .ok (.iconst 0, 1) := by decide +kernel
theorem d_law_1156 : decode code 1156 = .ok (.ireturn, 1) := by decide +kernel
