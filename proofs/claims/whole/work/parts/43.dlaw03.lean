theorem d_L_law_348 : decode code 348 = .ok (.iconst 3, 1) := by decide +kernel
theorem d_L_law_349 : decode code 349 = .ok (.iadd, 1) := by decide +kernel
theorem d_L_law_350 : decode code 350 = .ok (.iaload, 1) := by decide +kernel
theorem d_L_law_351 : decode code 351 = .ok (.invokevirtual 60, 3) := by decide +kernel
theorem d_L_law_354 : decode code 354 = .ok (.lcmp, 1) := by decide +kernel
theorem d_L_law_355 : decode code 355 = .ok (.ifCond .eq 512, 3) := by decide +kernel
theorem d_L_law_358 : decode code 358 = .ok (.iconst 0, 1) := by decide +kernel
theorem d_L_law_359 : decode code 359 = .ok (.ireturn, 1) := by decide +kernel
theorem d_L_law_360 : decode code 360 = .ok (.aload_n 1, 1) := by decide +kernel
theorem d_L_law_361 : decode code 361 = .ok (.aload_n 0, 1) := by decide +kernel
theorem d_L_law_362 : decode code 362 = .ok (.iload_n 3, 1) := by decide +kernel
theorem d_L_law_363 : decode code 363 = .ok (.iconst 1, 1) := by decide +kernel
theorem d_L_law_364 : decode code 364 = .ok (.iadd, 1) := by decide +kernel
theorem d_L_law_365 : decode code 365 = .ok (.iaload, 1) := by decide +kernel
theorem d_L_law_366 : decode code 366 = .ok (.invokevirtual 61, 3) := by decide +kernel
theorem d_L_law_369 : decode code 369 = .ok (.aload_n 2, 1) := by decide +kernel
theorem d_L_law_370 : decode code 370 = .ok (.aload_n 0, 1) := by decide +kernel
theorem d_L_law_371 : decode code 371 = .ok (.iload_n 3, 1) := by decide +kernel
theorem d_L_law_372 : decode code 372 = .ok (.iconst 1, 1) := by decide +kernel
theorem d_L_law_373 : decode code 373 = .ok (.iadd, 1) := by decide +kernel
theorem d_L_law_374 : decode code 374 = .ok (.iaload, 1) := by decide +kernel
theorem d_L_law_375 : decode code 375 = .ok (.invokevirtual 64, 3) := by decide +kernel
theorem d_L_law_378 : decode code 378 = .ok (.lcmp, 1) := by decide +kernel
theorem d_L_law_379 : decode code 379 = .ok (.ifCond .eq 488, 3) := by decide +kernel
theorem d_L_law_382 : decode code 382 = .ok (.iconst 0, 1) := by decide +kernel
theorem d_L_law_383 : decode code 383 = .ok (.ireturn, 1) := by decide +kernel
theorem d_L_law_384 : decode code 384 = .ok (.aload_n 1, 1) := by decide +kernel
theorem d_L_law_385 : decode code 385 = .ok (.aload_n 0, 1) := by decide +kernel
theorem d_L_law_386 : decode code 386 = .ok (.iload_n 3, 1) := by decide +kernel
theorem d_L_law_387 : decode code 387 = .ok (.iconst 1, 1) := by decide +kernel
theorem d_L_law_388 : decode code 388 = .ok (.iadd, 1) := by decide +kernel
theorem d_L_law_389 : decode code 389 = .ok (.iaload, 1) := by decide +kernel
theorem d_L_law_390 : decode code 390 = .ok (.i2l, 1) := by decide +kernel
theorem d_L_law_391 : decode code 391 = .ok (.bipush 32, 2) := by decide +kernel
theorem d_L_law_393 : decode code 393 = .ok (.lshl, 1) := by decide +kernel
theorem d_L_law_394 : decode code 394 = .ok (.aload_n 0, 1) := by decide +kernel
theorem d_L_law_395 : decode code 395 = .ok (.iload_n 3, 1) := by decide +kernel
theorem d_L_law_396 : decode code 396 = .ok (.iconst 2, 1) := by decide +kernel
theorem d_L_law_397 : decode code 397 = .ok (.iadd, 1) := by decide +kernel
theorem d_L_law_398 : decode code 398 = .ok (.iaload, 1) := by decide +kernel
theorem d_L_law_399 : decode code 399 = .ok (.i2l, 1) := by decide +kernel
theorem d_L_law_400 : decode code 400 = .ok (.ldc2_w 13, 3) := by decide +kernel
theorem d_L_law_403 : decode code 403 = .ok (.land, 1) := by decide +kernel
theorem d_L_law_404 : decode code 404 = .ok (.lor, 1) := by decide +kernel
theorem d_L_law_405 : decode code 405 = .ok (.invokevirtual 65, 3) := by decide +kernel
theorem d_L_law_408 : decode code 408 = .ok (.aload_n 2, 1) := by decide +kernel
theorem d_L_law_409 : decode code 409 = .ok (.aload_n 0, 1) := by decide +kernel
theorem d_L_law_410 : decode code 410 = .ok (.iload_n 3, 1) := by decide +kernel
theorem d_L_law_411 : decode code 411 = .ok (.iconst 1, 1) := by decide +kernel
theorem d_L_law_412 : decode code 412 = .ok (.iadd, 1) := by decide +kernel
theorem d_L_law_413 : decode code 413 = .ok (.iaload, 1) := by decide +kernel
theorem d_L_law_414 : decode code 414 = .ok (.i2l, 1) := by decide +kernel
theorem d_L_law_415 : decode code 415 = .ok (.bipush 32, 2) := by decide +kernel
theorem d_L_law_417 : decode code 417 = .ok (.lshl, 1) := by decide +kernel
theorem d_L_law_418 : decode code 418 = .ok (.aload_n 0, 1) := by decide +kernel
theorem d_L_law_419 : decode code 419 = .ok (.iload_n 3, 1) := by decide +kernel
theorem d_L_law_420 : decode code 420 = .ok (.iconst 2, 1) := by decide +kernel
theorem d_L_law_421 : decode code 421 = .ok (.iadd, 1) := by decide +kernel
theorem d_L_law_422 : decode code 422 = .ok (.iaload, 1) := by decide +kernel
theorem d_L_law_423 : decode code 423 = .ok (.i2l, 1) := by decide +kernel
