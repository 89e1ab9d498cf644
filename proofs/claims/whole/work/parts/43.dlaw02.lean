theorem d_L_law_270 : decode code 270 = .ok (.iaload, 1) := by decide +kernel
theorem d_L_law_271 : decode code 271 = .ok (.invokevirtual 46, 3) := by decide +kernel
theorem d_L_law_274 : decode code 274 = .ok (.if_icmp .eq 593, 3) := by decide +kernel
theorem d_L_law_277 : decode code 277 = .ok (.iconst 0, 1) := by decide +kernel
theorem d_L_law_278 : decode code 278 = .ok (.ireturn, 1) := by decide +kernel
theorem d_L_law_279 : decode code 279 = .ok (.aload_n 1, 1) := by decide +kernel
theorem d_L_law_280 : decode code 280 = .ok (.aload_n 0, 1) := by decide +kernel
theorem d_L_law_281 : decode code 281 = .ok (.iload_n 3, 1) := by decide +kernel
theorem d_L_law_282 : decode code 282 = .ok (.iconst 1, 1) := by decide +kernel
theorem d_L_law_283 : decode code 283 = .ok (.iadd, 1) := by decide +kernel
theorem d_L_law_284 : decode code 284 = .ok (.iaload, 1) := by decide +kernel
theorem d_L_law_285 : decode code 285 = .ok (.invokevirtual 47, 3) := by decide +kernel
theorem d_L_law_288 : decode code 288 = .ok (.aload_n 2, 1) := by decide +kernel
theorem d_L_law_289 : decode code 289 = .ok (.aload_n 0, 1) := by decide +kernel
theorem d_L_law_290 : decode code 290 = .ok (.iload_n 3, 1) := by decide +kernel
theorem d_L_law_291 : decode code 291 = .ok (.iconst 1, 1) := by decide +kernel
theorem d_L_law_292 : decode code 292 = .ok (.iadd, 1) := by decide +kernel
theorem d_L_law_293 : decode code 293 = .ok (.iaload, 1) := by decide +kernel
theorem d_L_law_294 : decode code 294 = .ok (.invokevirtual 51, 3) := by decide +kernel
theorem d_L_law_297 : decode code 297 = .ok (.lcmp, 1) := by decide +kernel
theorem d_L_law_298 : decode code 298 = .ok (.ifCond .eq 569, 3) := by decide +kernel
theorem d_L_law_301 : decode code 301 = .ok (.iconst 0, 1) := by decide +kernel
theorem d_L_law_302 : decode code 302 = .ok (.ireturn, 1) := by decide +kernel
theorem d_L_law_303 : decode code 303 = .ok (.aload_n 1, 1) := by decide +kernel
theorem d_L_law_304 : decode code 304 = .ok (.invokevirtual 52, 3) := by decide +kernel
theorem d_L_law_307 : decode code 307 = .ok (.aload_n 2, 1) := by decide +kernel
theorem d_L_law_308 : decode code 308 = .ok (.invokevirtual 55, 3) := by decide +kernel
theorem d_L_law_311 : decode code 311 = .ok (.if_icmp .eq 556, 3) := by decide +kernel
theorem d_L_law_314 : decode code 314 = .ok (.iconst 0, 1) := by decide +kernel
theorem d_L_law_315 : decode code 315 = .ok (.ireturn, 1) := by decide +kernel
theorem d_L_law_316 : decode code 316 = .ok (.aload_n 1, 1) := by decide +kernel
theorem d_L_law_317 : decode code 317 = .ok (.aload_n 0, 1) := by decide +kernel
theorem d_L_law_318 : decode code 318 = .ok (.iload_n 3, 1) := by decide +kernel
theorem d_L_law_319 : decode code 319 = .ok (.iconst 1, 1) := by decide +kernel
theorem d_L_law_320 : decode code 320 = .ok (.iadd, 1) := by decide +kernel
theorem d_L_law_321 : decode code 321 = .ok (.iaload, 1) := by decide +kernel
theorem d_L_law_322 : decode code 322 = .ok (.aload_n 0, 1) := by decide +kernel
theorem d_L_law_323 : decode code 323 = .ok (.iload_n 3, 1) := by decide +kernel
theorem d_L_law_324 : decode code 324 = .ok (.iconst 2, 1) := by decide +kernel
theorem d_L_law_325 : decode code 325 = .ok (.iadd, 1) := by decide +kernel
theorem d_L_law_326 : decode code 326 = .ok (.iaload, 1) := by decide +kernel
theorem d_L_law_327 : decode code 327 = .ok (.aload_n 0, 1) := by decide +kernel
theorem d_L_law_328 : decode code 328 = .ok (.iload_n 3, 1) := by decide +kernel
theorem d_L_law_329 : decode code 329 = .ok (.iconst 3, 1) := by decide +kernel
theorem d_L_law_330 : decode code 330 = .ok (.iadd, 1) := by decide +kernel
theorem d_L_law_331 : decode code 331 = .ok (.iaload, 1) := by decide +kernel
theorem d_L_law_332 : decode code 332 = .ok (.invokevirtual 56, 3) := by decide +kernel
theorem d_L_law_335 : decode code 335 = .ok (.aload_n 2, 1) := by decide +kernel
theorem d_L_law_336 : decode code 336 = .ok (.aload_n 0, 1) := by decide +kernel
theorem d_L_law_337 : decode code 337 = .ok (.iload_n 3, 1) := by decide +kernel
theorem d_L_law_338 : decode code 338 = .ok (.iconst 1, 1) := by decide +kernel
theorem d_L_law_339 : decode code 339 = .ok (.iadd, 1) := by decide +kernel
theorem d_L_law_340 : decode code 340 = .ok (.iaload, 1) := by decide +kernel
theorem d_L_law_341 : decode code 341 = .ok (.aload_n 0, 1) := by decide +kernel
theorem d_L_law_342 : decode code 342 = .ok (.iload_n 3, 1) := by decide +kernel
theorem d_L_law_343 : decode code 343 = .ok (.iconst 2, 1) := by decide +kernel
theorem d_L_law_344 : decode code 344 = .ok (.iadd, 1) := by decide +kernel
theorem d_L_law_345 : decode code 345 = .ok (.iaload, 1) := by decide +kernel
theorem d_L_law_346 : decode code 346 = .ok (.aload_n 0, 1) := by decide +kernel
theorem d_L_law_347 : decode code 347 = .ok (.iload_n 3, 1) := by decide +kernel
