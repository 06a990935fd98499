theorem d_law_1157 : decode code 1157 = .ok (.iload 5, 2) := by decide +kernel
theorem d_law_1159 : decode code 1159 = .ok (.ifCond .ne 15, 3) := by decide +kernel
theorem d_law_1162 : decode code 1162 = .ok (.aload_n 3, 1) := by decide +kernel
theorem d_law_1163 : decode code 1163 = .ok (.iconst 0, 1) := by decide +kernel
theorem d_law_1164 : decode code 1164 = .ok (.laload, 1) := by decide +kernel
theorem d_law_1165 : decode code 1165 = .ok (.iload 6, 2) := by decide +kernel
theorem d_law_1167 : decode code 1167 = .ok (.i2l, 1) := by decide +kernel
theorem d_law_1168 : decode code 1168 = .ok (.lcmp, 1) := by decide +kernel
theorem d_law_1169 : decode code 1169 = .ok (.ifCond .eq 5, 3) := by decide +kernel
theorem d_law_1172 : decode code 1172 = .ok (.iconst 0, 1) := by decide +kernel
theorem d_law_1173 : decode code 1173 = .ok (.ireturn, 1) := by decide +kernel
theorem d_law_1174 : decode code 1174 = .ok (.goto 59, 3) := by decide +kernel
theorem d_law_1177 : decode code 1177 = .ok (.aload_n 1, 1) := by decide +kernel
theorem d_law_1178 : decode code 1178 = .ok (.aload_n 0, 1) := by decide +kernel
theorem d_law_1179 : decode code 1179 = .ok (.iload 4, 2) := by decide +kernel
theorem d_law_1181 : decode code 1181 = .ok (.iconst 1, 1) := by decide +kernel
theorem d_law_1182 : decode code 1182 = .ok (.iadd, 1) := by decide +kernel
theorem d_law_1183 : decode code 1183 = .ok (.iaload, 1) := by decide +kernel
theorem d_law_1184 : decode code 1184 = .ok (.aload_n 3, 1) := by decide +kernel
theorem d_law_1185 : decode code 1185 = .ok (.invokestatic 129, 3) := by decide +kernel
theorem d_law_1188 : decode code 1188 = .ok (.istore 5, 2) := by decide +kernel
theorem d_law_1190 : decode code 1190 = .ok (.aload_n 2, 1) := by decide +kernel
theorem d_law_1191 : decode code 1191 = .ok (.aload_n 0, 1) := by decide +kernel
theorem d_law_1192 : decode code 1192 = .ok (.iload 4, 2) := by decide +kernel
theorem d_law_1194 : decode code 1194 = .ok (.iconst 1, 1) := by decide +kernel
theorem d_law_1195 : decode code 1195 = .ok (.iadd, 1) := by decide +kernel
theorem d_law_1196 : decode code 1196 = .ok (.iaload, 1) := by decide +kernel
theorem d_law_1197 : decode code 1197 = .ok (.invokevirtual 131, 3) := by decide +kernel
theorem d_law_1200 : decode code 1200 = .ok (.istore 6, 2) := by decide +kernel
theorem d_law_1202 : decode code 1202 = .ok (.aload_n 2, 1) := by decide +kernel
theorem d_law_1203 : decode code 1203 = .ok (.invokevirtual 82, 3) := by decide +kernel
theorem d_law_1206 : decode code 1206 = .ok (.iload 5, 2) := by decide +kernel
theorem d_law_1208 : decode code 1208 = .ok (.if_icmp .eq 5, 3) := by decide +kernel
theorem d_law_1211 : decode code 1211 = .ok (.iconst 0, 1) := by decide +kernel
theorem d_law_1212 : decode code 1212 = .ok (.ireturn, 1) := by decide +kernel
theorem d_law_1213 : decode code 1213 = .ok (.iload 5, 2) := by decide +kernel
theorem d_law_1215 : decode code 1215 = .ok (.ifCond .ne 15, 3) := by decide +kernel
theorem d_law_1218 : decode code 1218 = .ok (.aload_n 3, 1) := by decide +kernel
theorem d_law_1219 : decode code 1219 = .ok (.iconst 0, 1) := by decide +kernel
theorem d_law_1220 : decode code 1220 = .ok (.laload, 1) := by decide +kernel
theorem d_law_1221 : decode code 1221 = .ok (.iload 6, 2) := by decide +kernel
theorem d_law_1223 : decode code 1223 = .ok (.i2l, 1) := by decide +kernel
theorem d_law_1224 : decode code 1224 = .ok (.lcmp, 1) := by decide +kernel
theorem d_law_1225 : decode code 1225 = .ok (.ifCond .eq 5, 3) := by decide +kernel
theorem d_law_1228 : decode code 1228 = .ok (.iconst 0, 1) := by decide +kernel
theorem d_law_1229 : decode code 1229 = .ok (.ireturn, 1) := by decide +kernel
theorem d_law_1230 : decode code 1230 = .ok (.goto 3, 3) := by decide +kernel
theorem d_law_1233 : decode code 1233 = .ok (.iinc 4 6, 3) := by decide +kernel
theorem d_law_1236 : decode code 1236 = .ok (.goto (-1183), 3) := by decide +kernel
theorem d_law_1239 : decode code 1239 = .ok (.iconst 1, 1) := by decide +kernel
theorem d_law_1240 : decode code 1240 = .ok (.ireturn, 1) := by decide +kernel
