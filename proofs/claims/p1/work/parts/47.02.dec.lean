/-! THE LAW: decode rows -/
theorem d_Law_law_181 : decode b_Law_law 181 = .ok (.iaload, 1) := by decide +kernel
theorem d_Law_law_182 : decode b_Law_law 182 = .ok (.invokevirtual 82, 3) := by decide +kernel
theorem d_Law_law_185 : decode b_Law_law 185 = .ok (.istore 6, 2) := by decide +kernel
theorem d_Law_law_187 : decode b_Law_law 187 = .ok (.aload_n 2, 1) := by decide +kernel
theorem d_Law_law_188 : decode b_Law_law 188 = .ok (.invokevirtual 83, 3) := by decide +kernel
theorem d_Law_law_191 : decode b_Law_law 191 = .ok (.iload 5, 2) := by decide +kernel
theorem d_Law_law_193 : decode b_Law_law 193 = .ok (.if_icmp .eq 5, 3) := by decide +kernel
theorem d_Law_law_196 : decode b_Law_law 196 = .ok (.iconst 0, 1) := by decide +kernel
theorem d_Law_law_197 : decode b_Law_law 197 = .ok (.ireturn, 1) := by decide +kernel
theorem d_Law_law_198 : decode b_Law_law 198 = .ok (.iload 5, 2) := by decide +kernel
theorem d_Law_law_200 : decode b_Law_law 200 = .ok (.ifCond .ne 15, 3) := by decide +kernel
theorem d_Law_law_203 : decode b_Law_law 203 = .ok (.aload_n 3, 1) := by decide +kernel
theorem d_Law_law_204 : decode b_Law_law 204 = .ok (.iconst 0, 1) := by decide +kernel
theorem d_Law_law_205 : decode b_Law_law 205 = .ok (.laload, 1) := by decide +kernel
theorem d_Law_law_206 : decode b_Law_law 206 = .ok (.iload 6, 2) := by decide +kernel
theorem d_Law_law_208 : decode b_Law_law 208 = .ok (.i2l, 1) := by decide +kernel
theorem d_Law_law_209 : decode b_Law_law 209 = .ok (.lcmp, 1) := by decide +kernel
theorem d_Law_law_210 : decode b_Law_law 210 = .ok (.ifCond .eq 5, 3) := by decide +kernel
theorem d_Law_law_213 : decode b_Law_law 213 = .ok (.iconst 0, 1) := by decide +kernel
theorem d_Law_law_214 : decode b_Law_law 214 = .ok (.ireturn, 1) := by decide +kernel
theorem d_Law_law_215 : decode b_Law_law 215 = .ok (.goto 913, 3) := by decide +kernel
theorem d_Law_law_218 : decode b_Law_law 218 = .ok (.aload_n 1, 1) := by decide +kernel
theorem d_Law_law_219 : decode b_Law_law 219 = .ok (.aload_n 0, 1) := by decide +kernel
theorem d_Law_law_220 : decode b_Law_law 220 = .ok (.iload 4, 2) := by decide +kernel
theorem d_Law_law_222 : decode b_Law_law 222 = .ok (.iconst 1, 1) := by decide +kernel
theorem d_Law_law_223 : decode b_Law_law 223 = .ok (.iadd, 1) := by decide +kernel
theorem d_Law_law_224 : decode b_Law_law 224 = .ok (.iaload, 1) := by decide +kernel
theorem d_Law_law_225 : decode b_Law_law 225 = .ok (.aload_n 0, 1) := by decide +kernel
theorem d_Law_law_226 : decode b_Law_law 226 = .ok (.iload 4, 2) := by decide +kernel
theorem d_Law_law_228 : decode b_Law_law 228 = .ok (.iconst 2, 1) := by decide +kernel
theorem d_Law_law_229 : decode b_Law_law 229 = .ok (.iadd, 1) := by decide +kernel
theorem d_Law_law_230 : decode b_Law_law 230 = .ok (.iaload, 1) := by decide +kernel
theorem d_Law_law_231 : decode b_Law_law 231 = .ok (.i2l, 1) := by decide +kernel
theorem d_Law_law_232 : decode b_Law_law 232 = .ok (.bipush 32, 2) := by decide +kernel
theorem d_Law_law_234 : decode b_Law_law 234 = .ok (.lshl, 1) := by decide +kernel
theorem d_Law_law_235 : decode b_Law_law 235 = .ok (.aload_n 0, 1) := by decide +kernel
theorem d_Law_law_236 : decode b_Law_law 236 = .ok (.iload 4, 2) := by decide +kernel
theorem d_Law_law_238 : decode b_Law_law 238 = .ok (.iconst 3, 1) := by decide +kernel
theorem d_Law_law_239 : decode b_Law_law 239 = .ok (.iadd, 1) := by decide +kernel
theorem d_Law_law_240 : decode b_Law_law 240 = .ok (.iaload, 1) := by decide +kernel
theorem d_Law_law_241 : decode b_Law_law 241 = .ok (.i2l, 1) := by decide +kernel
theorem d_Law_law_242 : decode b_Law_law 242 = .ok (.ldc2_w 86, 3) := by decide +kernel
theorem d_Law_law_245 : decode b_Law_law 245 = .ok (.land, 1) := by decide +kernel
theorem d_Law_law_246 : decode b_Law_law 246 = .ok (.lor, 1) := by decide +kernel
theorem d_Law_law_247 : decode b_Law_law 247 = .ok (.aload_n 0, 1) := by decide +kernel
theorem d_Law_law_248 : decode b_Law_law 248 = .ok (.iload 4, 2) := by decide +kernel
theorem d_Law_law_250 : decode b_Law_law 250 = .ok (.iconst 4, 1) := by decide +kernel
theorem d_Law_law_251 : decode b_Law_law 251 = .ok (.iadd, 1) := by decide +kernel
theorem d_Law_law_252 : decode b_Law_law 252 = .ok (.iaload, 1) := by decide +kernel
theorem d_Law_law_253 : decode b_Law_law 253 = .ok (.i2l, 1) := by decide +kernel
