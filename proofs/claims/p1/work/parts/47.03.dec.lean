/-! THE LAW: decode rows -/
theorem d_Law_law_254 : decode b_Law_law 254 = .ok (.bipush 32, 2) := by decide +kernel
theorem d_Law_law_256 : decode b_Law_law 256 = .ok (.lshl, 1) := by decide +kernel
theorem d_Law_law_257 : decode b_Law_law 257 = .ok (.aload_n 0, 1) := by decide +kernel
theorem d_Law_law_258 : decode b_Law_law 258 = .ok (.iload 4, 2) := by decide +kernel
theorem d_Law_law_260 : decode b_Law_law 260 = .ok (.iconst 5, 1) := by decide +kernel
theorem d_Law_law_261 : decode b_Law_law 261 = .ok (.iadd, 1) := by decide +kernel
theorem d_Law_law_262 : decode b_Law_law 262 = .ok (.iaload, 1) := by decide +kernel
theorem d_Law_law_263 : decode b_Law_law 263 = .ok (.i2l, 1) := by decide +kernel
theorem d_Law_law_264 : decode b_Law_law 264 = .ok (.ldc2_w 86, 3) := by decide +kernel
theorem d_Law_law_267 : decode b_Law_law 267 = .ok (.land, 1) := by decide +kernel
theorem d_Law_law_268 : decode b_Law_law 268 = .ok (.lor, 1) := by decide +kernel
theorem d_Law_law_269 : decode b_Law_law 269 = .ok (.aload_n 3, 1) := by decide +kernel
theorem d_Law_law_270 : decode b_Law_law 270 = .ok (.invokestatic 88, 3) := by decide +kernel
theorem d_Law_law_273 : decode b_Law_law 273 = .ok (.istore 5, 2) := by decide +kernel
theorem d_Law_law_275 : decode b_Law_law 275 = .ok (.aload_n 2, 1) := by decide +kernel
theorem d_Law_law_276 : decode b_Law_law 276 = .ok (.aload_n 0, 1) := by decide +kernel
theorem d_Law_law_277 : decode b_Law_law 277 = .ok (.iload 4, 2) := by decide +kernel
theorem d_Law_law_279 : decode b_Law_law 279 = .ok (.iconst 1, 1) := by decide +kernel
theorem d_Law_law_280 : decode b_Law_law 280 = .ok (.iadd, 1) := by decide +kernel
theorem d_Law_law_281 : decode b_Law_law 281 = .ok (.iaload, 1) := by decide +kernel
theorem d_Law_law_282 : decode b_Law_law 282 = .ok (.aload_n 0, 1) := by decide +kernel
theorem d_Law_law_283 : decode b_Law_law 283 = .ok (.iload 4, 2) := by decide +kernel
theorem d_Law_law_285 : decode b_Law_law 285 = .ok (.iconst 2, 1) := by decide +kernel
theorem d_Law_law_286 : decode b_Law_law 286 = .ok (.iadd, 1) := by decide +kernel
theorem d_Law_law_287 : decode b_Law_law 287 = .ok (.iaload, 1) := by decide +kernel
theorem d_Law_law_288 : decode b_Law_law 288 = .ok (.i2l, 1) := by decide +kernel
theorem d_Law_law_289 : decode b_Law_law 289 = .ok (.bipush 32, 2) := by decide +kernel
theorem d_Law_law_291 : decode b_Law_law 291 = .ok (.lshl, 1) := by decide +kernel
theorem d_Law_law_292 : decode b_Law_law 292 = .ok (.aload_n 0, 1) := by decide +kernel
theorem d_Law_law_293 : decode b_Law_law 293 = .ok (.iload 4, 2) := by decide +kernel
theorem d_Law_law_295 : decode b_Law_law 295 = .ok (.iconst 3, 1) := by decide +kernel
theorem d_Law_law_296 : decode b_Law_law 296 = .ok (.iadd, 1) := by decide +kernel
theorem d_Law_law_297 : decode b_Law_law 297 = .ok (.iaload, 1) := by decide +kernel
theorem d_Law_law_298 : decode b_Law_law 298 = .ok (.i2l, 1) := by decide +kernel
theorem d_Law_law_299 : decode b_Law_law 299 = .ok (.ldc2_w 86, 3) := by decide +kernel
theorem d_Law_law_302 : decode b_Law_law 302 = .ok (.land, 1) := by decide +kernel
theorem d_Law_law_303 : decode b_Law_law 303 = .ok (.lor, 1) := by decide +kernel
theorem d_Law_law_304 : decode b_Law_law 304 = .ok (.aload_n 0, 1) := by decide +kernel
theorem d_Law_law_305 : decode b_Law_law 305 = .ok (.iload 4, 2) := by decide +kernel
theorem d_Law_law_307 : decode b_Law_law 307 = .ok (.iconst 4, 1) := by decide +kernel
theorem d_Law_law_308 : decode b_Law_law 308 = .ok (.iadd, 1) := by decide +kernel
theorem d_Law_law_309 : decode b_Law_law 309 = .ok (.iaload, 1) := by decide +kernel
theorem d_Law_law_310 : decode b_Law_law 310 = .ok (.i2l, 1) := by decide +kernel
theorem d_Law_law_311 : decode b_Law_law 311 = .ok (.bipush 32, 2) := by decide +kernel
theorem d_Law_law_313 : decode b_Law_law 313 = .ok (.lshl, 1) := by decide +kernel
theorem d_Law_law_314 : decode b_Law_law 314 = .ok (.aload_n 0, 1) := by decide +kernel
theorem d_Law_law_315 : decode b_Law_law 315 = .ok (.iload 4, 2) := by decide +kernel
theorem d_Law_law_317 : decode b_Law_law 317 = .ok (.iconst 5, 1) := by decide +kernel
theorem d_Law_law_318 : decode b_Law_law 318 = .ok (.iadd, 1) := by decide +kernel
theorem d_Law_law_319 : decode b_Law_law 319 = .ok (.iaload, 1) := by decide +kernel
