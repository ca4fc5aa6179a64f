/-! THE LAW: decode rows -/
theorem d_Law_law_251 : decode b_Law_law 251 = .ok (.iconst 1, 1) := by decide +kernel
theorem d_Law_law_252 : decode b_Law_law 252 = .ok (.iadd, 1) := by decide +kernel
theorem d_Law_law_253 : decode b_Law_law 253 = .ok (.iaload, 1) := by decide +kernel
theorem d_Law_law_254 : decode b_Law_law 254 = .ok (.aload_n 0, 1) := by decide +kernel
theorem d_Law_law_255 : decode b_Law_law 255 = .ok (.iload 4, 2) := by decide +kernel
theorem d_Law_law_257 : decode b_Law_law 257 = .ok (.iconst 2, 1) := by decide +kernel
theorem d_Law_law_258 : decode b_Law_law 258 = .ok (.iadd, 1) := by decide +kernel
theorem d_Law_law_259 : decode b_Law_law 259 = .ok (.iaload, 1) := by decide +kernel
theorem d_Law_law_260 : decode b_Law_law 260 = .ok (.i2l, 1) := by decide +kernel
theorem d_Law_law_261 : decode b_Law_law 261 = .ok (.bipush 32, 2) := by decide +kernel
theorem d_Law_law_263 : decode b_Law_law 263 = .ok (.lshl, 1) := by decide +kernel
theorem d_Law_law_264 : decode b_Law_law 264 = .ok (.aload_n 0, 1) := by decide +kernel
theorem d_Law_law_265 : decode b_Law_law 265 = .ok (.iload 4, 2) := by decide +kernel
theorem d_Law_law_267 : decode b_Law_law 267 = .ok (.iconst 3, 1) := by decide +kernel
theorem d_Law_law_268 : decode b_Law_law 268 = .ok (.iadd, 1) := by decide +kernel
theorem d_Law_law_269 : decode b_Law_law 269 = .ok (.iaload, 1) := by decide +kernel
theorem d_Law_law_270 : decode b_Law_law 270 = .ok (.i2l, 1) := by decide +kernel
theorem d_Law_law_271 : decode b_Law_law 271 = .ok (.ldc2_w 83, 3) := by decide +kernel
theorem d_Law_law_274 : decode b_Law_law 274 = .ok (.land, 1) := by decide +kernel
theorem d_Law_law_275 : decode b_Law_law 275 = .ok (.lor, 1) := by decide +kernel
theorem d_Law_law_276 : decode b_Law_law 276 = .ok (.aload_n 0, 1) := by decide +kernel
theorem d_Law_law_277 : decode b_Law_law 277 = .ok (.iload 4, 2) := by decide +kernel
theorem d_Law_law_279 : decode b_Law_law 279 = .ok (.iconst 4, 1) := by decide +kernel
theorem d_Law_law_280 : decode b_Law_law 280 = .ok (.iadd, 1) := by decide +kernel
theorem d_Law_law_281 : decode b_Law_law 281 = .ok (.iaload, 1) := by decide +kernel
theorem d_Law_law_282 : decode b_Law_law 282 = .ok (.i2l, 1) := by decide +kernel
theorem d_Law_law_283 : decode b_Law_law 283 = .ok (.bipush 32, 2) := by decide +kernel
theorem d_Law_law_285 : decode b_Law_law 285 = .ok (.lshl, 1) := by decide +kernel
theorem d_Law_law_286 : decode b_Law_law 286 = .ok (.aload_n 0, 1) := by decide +kernel
theorem d_Law_law_287 : decode b_Law_law 287 = .ok (.iload 4, 2) := by decide +kernel
theorem d_Law_law_289 : decode b_Law_law 289 = .ok (.iconst 5, 1) := by decide +kernel
theorem d_Law_law_290 : decode b_Law_law 290 = .ok (.iadd, 1) := by decide +kernel
theorem d_Law_law_291 : decode b_Law_law 291 = .ok (.iaload, 1) := by decide +kernel
theorem d_Law_law_292 : decode b_Law_law 292 = .ok (.i2l, 1) := by decide +kernel
theorem d_Law_law_293 : decode b_Law_law 293 = .ok (.ldc2_w 83, 3) := by decide +kernel
theorem d_Law_law_296 : decode b_Law_law 296 = .ok (.land, 1) := by decide +kernel
theorem d_Law_law_297 : decode b_Law_law 297 = .ok (.lor, 1) := by decide +kernel
theorem d_Law_law_298 : decode b_Law_law 298 = .ok (.invokevirtual 88, 3) := by decide +kernel
theorem d_Law_law_301 : decode b_Law_law 301 = .ok (.istore 6, 2) := by decide +kernel
theorem d_Law_law_303 : decode b_Law_law 303 = .ok (.aload_n 2, 1) := by decide +kernel
theorem d_Law_law_304 : decode b_Law_law 304 = .ok (.invokevirtual 89, 3) := by decide +kernel
theorem d_Law_law_307 : decode b_Law_law 307 = .ok (.iload 5, 2) := by decide +kernel
theorem d_Law_law_309 : decode b_Law_law 309 = .ok (.if_icmp .eq 5, 3) := by decide +kernel
theorem d_Law_law_312 : decode b_Law_law 312 = .ok (.iconst 0, 1) := by decide +kernel
theorem d_Law_law_313 : decode b_Law_law 313 = .ok (.ireturn, 1) := by decide +kernel
theorem d_Law_law_314 : decode b_Law_law 314 = .ok (.iload 5, 2) := by decide +kernel
theorem d_Law_law_316 : decode b_Law_law 316 = .ok (.ifCond .ne 22, 3) := by decide +kernel
theorem d_Law_law_319 : decode b_Law_law 319 = .ok (.aload_n 3, 1) := by decide +kernel
theorem d_Law_law_320 : decode b_Law_law 320 = .ok (.iconst 0, 1) := by decide +kernel
theorem d_Law_law_321 : decode b_Law_law 321 = .ok (.laload, 1) := by decide +kernel
