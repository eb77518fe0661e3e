/-! decode rows of the law -/
theorem dL_law_309 : decode mL.2.1 309 = .ok (.iconst 1, 1) := by decide +kernel
theorem dL_law_310 : decode mL.2.1 310 = .ok (.iadd, 1) := by decide +kernel
theorem dL_law_311 : decode mL.2.1 311 = .ok (.iaload, 1) := by decide +kernel
theorem dL_law_312 : decode mL.2.1 312 = .ok (.aload_n 0, 1) := by decide +kernel
theorem dL_law_313 : decode mL.2.1 313 = .ok (.iload_n 3, 1) := by decide +kernel
theorem dL_law_314 : decode mL.2.1 314 = .ok (.iconst 2, 1) := by decide +kernel
theorem dL_law_315 : decode mL.2.1 315 = .ok (.iadd, 1) := by decide +kernel
theorem dL_law_316 : decode mL.2.1 316 = .ok (.iaload, 1) := by decide +kernel
theorem dL_law_317 : decode mL.2.1 317 = .ok (.invokevirtual 22, 3) := by decide +kernel
theorem dL_law_320 : decode mL.2.1 320 = .ok (.aload_n 2, 1) := by decide +kernel
theorem dL_law_321 : decode mL.2.1 321 = .ok (.aload_n 0, 1) := by decide +kernel
theorem dL_law_322 : decode mL.2.1 322 = .ok (.iload_n 3, 1) := by decide +kernel
theorem dL_law_323 : decode mL.2.1 323 = .ok (.iconst 1, 1) := by decide +kernel
theorem dL_law_324 : decode mL.2.1 324 = .ok (.iadd, 1) := by decide +kernel
theorem dL_law_325 : decode mL.2.1 325 = .ok (.iaload, 1) := by decide +kernel
theorem dL_law_326 : decode mL.2.1 326 = .ok (.aload_n 0, 1) := by decide +kernel
theorem dL_law_327 : decode mL.2.1 327 = .ok (.iload_n 3, 1) := by decide +kernel
theorem dL_law_328 : decode mL.2.1 328 = .ok (.iconst 2, 1) := by decide +kernel
theorem dL_law_329 : decode mL.2.1 329 = .ok (.iadd, 1) := by decide +kernel
theorem dL_law_330 : decode mL.2.1 330 = .ok (.iaload, 1) := by decide +kernel
theorem dL_law_331 : decode mL.2.1 331 = .ok (.invokevirtual 25, 3) := by decide +kernel
theorem dL_law_334 : decode mL.2.1 334 = .ok (.if_icmp .eq 1161, 3) := by decide +kernel
theorem dL_law_339 : decode mL.2.1 339 = .ok (.aload_n 1, 1) := by decide +kernel
theorem dL_law_340 : decode mL.2.1 340 = .ok (.aload_n 0, 1) := by decide +kernel
theorem dL_law_341 : decode mL.2.1 341 = .ok (.iload_n 3, 1) := by decide +kernel
theorem dL_law_342 : decode mL.2.1 342 = .ok (.iconst 1, 1) := by decide +kernel
theorem dL_law_343 : decode mL.2.1 343 = .ok (.iadd, 1) := by decide +kernel
theorem dL_law_344 : decode mL.2.1 344 = .ok (.iaload, 1) := by decide +kernel
theorem dL_law_345 : decode mL.2.1 345 = .ok (.aload_n 0, 1) := by decide +kernel
theorem dL_law_346 : decode mL.2.1 346 = .ok (.iload_n 3, 1) := by decide +kernel
theorem dL_law_347 : decode mL.2.1 347 = .ok (.iconst 2, 1) := by decide +kernel
theorem dL_law_348 : decode mL.2.1 348 = .ok (.iadd, 1) := by decide +kernel
theorem dL_law_349 : decode mL.2.1 349 = .ok (.iaload, 1) := by decide +kernel
theorem dL_law_350 : decode mL.2.1 350 = .ok (.aload_n 0, 1) := by decide +kernel
theorem dL_law_351 : decode mL.2.1 351 = .ok (.iload_n 3, 1) := by decide +kernel
theorem dL_law_352 : decode mL.2.1 352 = .ok (.iconst 3, 1) := by decide +kernel
theorem dL_law_353 : decode mL.2.1 353 = .ok (.iadd, 1) := by decide +kernel
theorem dL_law_354 : decode mL.2.1 354 = .ok (.iaload, 1) := by decide +kernel
theorem dL_law_355 : decode mL.2.1 355 = .ok (.invokevirtual 26, 3) := by decide +kernel
theorem dL_law_358 : decode mL.2.1 358 = .ok (.aload_n 2, 1) := by decide +kernel
theorem dL_law_359 : decode mL.2.1 359 = .ok (.aload_n 0, 1) := by decide +kernel
theorem dL_law_360 : decode mL.2.1 360 = .ok (.iload_n 3, 1) := by decide +kernel
theorem dL_law_361 : decode mL.2.1 361 = .ok (.iconst 1, 1) := by decide +kernel
theorem dL_law_362 : decode mL.2.1 362 = .ok (.iadd, 1) := by decide +kernel
theorem dL_law_363 : decode mL.2.1 363 = .ok (.iaload, 1) := by decide +kernel
theorem dL_law_364 : decode mL.2.1 364 = .ok (.aload_n 0, 1) := by decide +kernel
theorem dL_law_365 : decode mL.2.1 365 = .ok (.iload_n 3, 1) := by decide +kernel
theorem dL_law_366 : decode mL.2.1 366 = .ok (.iconst 2, 1) := by decide +kernel
theorem dL_law_367 : decode mL.2.1 367 = .ok (.iadd, 1) := by decide +kernel
theorem dL_law_368 : decode mL.2.1 368 = .ok (.iaload, 1) := by decide +kernel
theorem dL_law_369 : decode mL.2.1 369 = .ok (.aload_n 0, 1) := by decide +kernel
theorem dL_law_370 : decode mL.2.1 370 = .ok (.iload_n 3, 1) := by decide +kernel
theorem dL_law_371 : decode mL.2.1 371 = .ok (.iconst 3, 1) := by decide +kernel
theorem dL_law_372 : decode mL.2.1 372 = .ok (.iadd, 1) := by decide +kernel
theorem dL_law_373 : decode mL.2.1 373 = .ok (.iaload, 1) := by decide +kernel
theorem dL_law_374 : decode mL.2.1 374 = .ok (.invokevirtual 30, 3) := by decide +kernel
theorem dL_law_377 : decode mL.2.1 377 = .ok (.if_icmp .eq 1118, 3) := by decide +kernel
theorem dL_law_382 : decode mL.2.1 382 = .ok (.aload_n 1, 1) := by decide +kernel
theorem dL_law_383 : decode mL.2.1 383 = .ok (.aload_n 0, 1) := by decide +kernel
theorem dL_law_384 : decode mL.2.1 384 = .ok (.iload_n 3, 1) := by decide +kernel
theorem dL_law_385 : decode mL.2.1 385 = .ok (.iconst 1, 1) := by decide +kernel
theorem dL_law_386 : decode mL.2.1 386 = .ok (.iadd, 1) := by decide +kernel
theorem dL_law_387 : decode mL.2.1 387 = .ok (.iaload, 1) := by decide +kernel
theorem dL_law_388 : decode mL.2.1 388 = .ok (.aload_n 0, 1) := by decide +kernel
theorem dL_law_389 : decode mL.2.1 389 = .ok (.iload_n 3, 1) := by decide +kernel
theorem dL_law_390 : decode mL.2.1 390 = .ok (.iconst 2, 1) := by decide +kernel
theorem dL_law_391 : decode mL.2.1 391 = .ok (.iadd, 1) := by decide +kernel
theorem dL_law_392 : decode mL.2.1 392 = .ok (.iaload, 1) := by decide +kernel
theorem dL_law_393 : decode mL.2.1 393 = .ok (.invokevirtual 31, 3) := by decide +kernel
theorem dL_law_396 : decode mL.2.1 396 = .ok (.aload_n 2, 1) := by decide +kernel
theorem dL_law_397 : decode mL.2.1 397 = .ok (.aload_n 0, 1) := by decide +kernel
theorem dL_law_398 : decode mL.2.1 398 = .ok (.iload_n 3, 1) := by decide +kernel
theorem dL_law_399 : decode mL.2.1 399 = .ok (.iconst 1, 1) := by decide +kernel
theorem dL_law_400 : decode mL.2.1 400 = .ok (.iadd, 1) := by decide +kernel
theorem dL_law_401 : decode mL.2.1 401 = .ok (.iaload, 1) := by decide +kernel
