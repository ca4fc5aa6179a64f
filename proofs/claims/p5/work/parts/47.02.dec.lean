/-! THE LAW: decode rows -/
theorem d_Law_law_181 : decode b_Law_law 181 = .ok (.iaload, 1) := by decide +kernel
theorem d_Law_law_182 : decode b_Law_law 182 = .ok (.invokevirtual 82, 3) := by decide +kernel
theorem d_Law_law_185 : decode b_Law_law 185 = .ok (.istore 6, 2) := by decide +kernel
theorem d_Law_law_187 : decode b_Law_law 187 = .ok (.goto 563, 3) := by decide +kernel
theorem d_Law_law_190 : decode b_Law_law 190 = .ok (.aload_n 1, 1) := by decide +kernel
theorem d_Law_law_191 : decode b_Law_law 191 = .ok (.aload_n 0, 1) := by decide +kernel
theorem d_Law_law_192 : decode b_Law_law 192 = .ok (.iload 4, 2) := by decide +kernel
theorem d_Law_law_194 : decode b_Law_law 194 = .ok (.iconst 1, 1) := by decide +kernel
theorem d_Law_law_195 : decode b_Law_law 195 = .ok (.iadd, 1) := by decide +kernel
theorem d_Law_law_196 : decode b_Law_law 196 = .ok (.iaload, 1) := by decide +kernel
theorem d_Law_law_197 : decode b_Law_law 197 = .ok (.aload_n 0, 1) := by decide +kernel
theorem d_Law_law_198 : decode b_Law_law 198 = .ok (.iload 4, 2) := by decide +kernel
theorem d_Law_law_200 : decode b_Law_law 200 = .ok (.iconst 2, 1) := by decide +kernel
theorem d_Law_law_201 : decode b_Law_law 201 = .ok (.iadd, 1) := by decide +kernel
theorem d_Law_law_202 : decode b_Law_law 202 = .ok (.iaload, 1) := by decide +kernel
theorem d_Law_law_203 : decode b_Law_law 203 = .ok (.i2l, 1) := by decide +kernel
theorem d_Law_law_204 : decode b_Law_law 204 = .ok (.bipush 32, 2) := by decide +kernel
theorem d_Law_law_206 : decode b_Law_law 206 = .ok (.lshl, 1) := by decide +kernel
theorem d_Law_law_207 : decode b_Law_law 207 = .ok (.aload_n 0, 1) := by decide +kernel
theorem d_Law_law_208 : decode b_Law_law 208 = .ok (.iload 4, 2) := by decide +kernel
theorem d_Law_law_210 : decode b_Law_law 210 = .ok (.iconst 3, 1) := by decide +kernel
theorem d_Law_law_211 : decode b_Law_law 211 = .ok (.iadd, 1) := by decide +kernel
theorem d_Law_law_212 : decode b_Law_law 212 = .ok (.iaload, 1) := by decide +kernel
theorem d_Law_law_213 : decode b_Law_law 213 = .ok (.i2l, 1) := by decide +kernel
theorem d_Law_law_214 : decode b_Law_law 214 = .ok (.ldc2_w 83, 3) := by decide +kernel
theorem d_Law_law_217 : decode b_Law_law 217 = .ok (.land, 1) := by decide +kernel
theorem d_Law_law_218 : decode b_Law_law 218 = .ok (.lor, 1) := by decide +kernel
theorem d_Law_law_219 : decode b_Law_law 219 = .ok (.aload_n 0, 1) := by decide +kernel
theorem d_Law_law_220 : decode b_Law_law 220 = .ok (.iload 4, 2) := by decide +kernel
theorem d_Law_law_222 : decode b_Law_law 222 = .ok (.iconst 4, 1) := by decide +kernel
theorem d_Law_law_223 : decode b_Law_law 223 = .ok (.iadd, 1) := by decide +kernel
theorem d_Law_law_224 : decode b_Law_law 224 = .ok (.iaload, 1) := by decide +kernel
theorem d_Law_law_225 : decode b_Law_law 225 = .ok (.i2l, 1) := by decide +kernel
theorem d_Law_law_226 : decode b_Law_law 226 = .ok (.bipush 32, 2) := by decide +kernel
theorem d_Law_law_228 : decode b_Law_law 228 = .ok (.lshl, 1) := by decide +kernel
theorem d_Law_law_229 : decode b_Law_law 229 = .ok (.aload_n 0, 1) := by decide +kernel
theorem d_Law_law_230 : decode b_Law_law 230 = .ok (.iload 4, 2) := by decide +kernel
theorem d_Law_law_232 : decode b_Law_law 232 = .ok (.iconst 5, 1) := by decide +kernel
theorem d_Law_law_233 : decode b_Law_law 233 = .ok (.iadd, 1) := by decide +kernel
theorem d_Law_law_234 : decode b_Law_law 234 = .ok (.iaload, 1) := by decide +kernel
theorem d_Law_law_235 : decode b_Law_law 235 = .ok (.i2l, 1) := by decide +kernel
theorem d_Law_law_236 : decode b_Law_law 236 = .ok (.ldc2_w 83, 3) := by decide +kernel
theorem d_Law_law_239 : decode b_Law_law 239 = .ok (.land, 1) := by decide +kernel
theorem d_Law_law_240 : decode b_Law_law 240 = .ok (.lor, 1) := by decide +kernel
theorem d_Law_law_241 : decode b_Law_law 241 = .ok (.aload_n 3, 1) := by decide +kernel
theorem d_Law_law_242 : decode b_Law_law 242 = .ok (.invokestatic 85, 3) := by decide +kernel
theorem d_Law_law_245 : decode b_Law_law 245 = .ok (.istore 5, 2) := by decide +kernel
theorem d_Law_law_247 : decode b_Law_law 247 = .ok (.aload_n 2, 1) := by decide +kernel
theorem d_Law_law_248 : decode b_Law_law 248 = .ok (.aload_n 0, 1) := by decide +kernel
theorem d_Law_law_249 : decode b_Law_law 249 = .ok (.iload 4, 2) := by decide +kernel
