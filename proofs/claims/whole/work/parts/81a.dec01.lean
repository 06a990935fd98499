theorem d_law_164 : decode code 164 = .ok (.iload 4, 2) := by decide +kernel
theorem d_law_166 : decode code 166 = .ok (.iconst 4, 1) := by decide +kernel
theorem d_law_167 : decode code 167 = .ok (.iadd, 1) := by decide +kernel
theorem d_law_168 : decode code 168 = .ok (.iaload, 1) := by decide +kernel
theorem d_law_169 : decode code 169 = .ok (.aload_n 0, 1) := by decide +kernel
theorem d_law_170 : decode code 170 = .ok (.iload 4, 2) := by decide +kernel
theorem d_law_172 : decode code 172 = .ok (.iconst 5, 1) := by decide +kernel
theorem d_law_173 : decode code 173 = .ok (.iadd, 1) := by decide +kernel
theorem d_law_174 : decode code 174 = .ok (.iaload, 1) := by decide +kernel
theorem d_law_175 : decode code 175 = .ok (.aload_n 3, 1) := by decide +kernel
theorem d_law_176 : decode code 176 = .ok (.invokestatic 78, 3) := by decide +kernel
theorem d_law_179 : decode code 179 = .ok (.istore 5, 2) := by decide +kernel
theorem d_law_181 : decode code 181 = .ok (.aload_n 2, 1) := by decide +kernel
theorem d_law_182 : decode code 182 = .ok (.aload_n 0, 1) := by decide +kernel
theorem d_law_183 : decode code 183 = .ok (.iload 4, 2) := by decide +kernel
theorem d_law_185 : decode code 185 = .ok (.iconst 1, 1) := by decide +kernel
theorem d_law_186 : decode code 186 = .ok (.iadd, 1) := by decide +kernel
theorem d_law_187 : decode code 187 = .ok (.iaload, 1) := by decide +kernel
theorem d_law_188 : decode code 188 = .ok (.aload_n 0, 1) := by decide +kernel
theorem d_law_189 : decode code 189 = .ok (.iload 4, 2) := by decide +kernel
theorem d_law_191 : decode code 191 = .ok (.iconst 2, 1) := by decide +kernel
theorem d_law_192 : decode code 192 = .ok (.iadd, 1) := by decide +kernel
theorem d_law_193 : decode code 193 = .ok (.iaload, 1) := by decide +kernel
theorem d_law_194 : decode code 194 = .ok (.aload_n 0, 1) := by decide +kernel
theorem d_law_195 : decode code 195 = .ok (.iload 4, 2) := by decide +kernel
theorem d_law_197 : decode code 197 = .ok (.iconst 3, 1) := by decide +kernel
theorem d_law_198 : decode code 198 = .ok (.iadd, 1) := by decide +kernel
theorem d_law_199 : decode code 199 = .ok (.iaload, 1) := by decide +kernel
theorem d_law_200 : decode code 200 = .ok (.aload_n 0, 1) := by decide +kernel
theorem d_law_201 : decode code 201 = .ok (.iload 4, 2) := by decide +kernel
theorem d_law_203 : decode code 203 = .ok (.iconst 4, 1) := by decide +kernel
theorem d_law_204 : decode code 204 = .ok (.iadd, 1) := by decide +kernel
theorem d_law_205 : decode code 205 = .ok (.iaload, 1) := by decide +kernel
theorem d_law_206 : decode code 206 = .ok (.aload_n 0, 1) := by decide +kernel
theorem d_law_207 : decode code 207 = .ok (.iload 4, 2) := by decide +kernel
theorem d_law_209 : decode code 209 = .ok (.iconst 5, 1) := by decide +kernel
theorem d_law_210 : decode code 210 = .ok (.iadd, 1) := by decide +kernel
theorem d_law_211 : decode code 211 = .ok (.iaload, 1) := by decide +kernel
theorem d_law_212 : decode code 212 = .ok (.invokevirtual 81, 3) := by decide +kernel
theorem d_law_215 : decode code 215 = .ok (.istore 6, 2) := by decide +kernel
theorem d_law_217 : decode code 217 = .ok (.aload_n 2, 1) := by decide +kernel
theorem d_law_218 : decode code 218 = .ok (.invokevirtual 82, 3) := by decide +kernel
theorem d_law_221 : decode code 221 = .ok (.iload 5, 2) := by decide +kernel
theorem d_law_223 : decode code 223 = .ok (.if_icmp .eq 5, 3) := by decide +kernel
theorem d_law_226 : decode code 226 = .ok (.iconst 0, 1) := by decide +kernel
theorem d_law_227 : decode code 227 = .ok (.ireturn, 1) := by decide +kernel
theorem d_law_228 : decode code 228 = .ok (.iload 5, 2) := by decide +kernel
theorem d_law_230 : decode code 230 = .ok (.ifCond .ne 22, 3) := by decide +kernel
theorem d_law_233 : decode code 233 = .ok (.aload_n 3, 1) := by decide +kernel
theorem d_law_234 : decode code 234 = .ok (.iconst 0, 1) := by decide +kernel
theorem d_law_235 : decode code 235 = .ok (.laload, 1) := by decide +kernel
theorem d_law_236 : decode code 236 = .ok (.iload 6, 2) := by decide +kernel
theorem d_law_238 : decode code 238 = .ok (.ifCond .eq 7, 3) := by decide +kernel
theorem d_law_241 : decode code 241 = .ok (.lconst 1, 1) := by decide +kernel
theorem d_law_242 : decode code 242 = .ok (.goto 4, 3) := by decide +kernel
theorem d_law_245 : decode code 245 = .ok (.lconst 0, 1) := by decide +kernel
theorem d_law_246 : decode code 246 = .ok (.lcmp, 1) := by decide +kernel
theorem d_law_247 : decode code 247 = .ok (.ifCond .eq 5, 3) := by decide +kernel
theorem d_law_250 : decode code 250 = .ok (.iconst 0, 1) := by decide +kernel
theorem d_law_251 : decode code 251 = .ok (.ireturn, 1) := by decide +kernel
