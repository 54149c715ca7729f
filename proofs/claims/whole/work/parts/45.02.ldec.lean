/-! the law's instructions -/
theorem dl_306 : decode code 306 = .ok (.iadd, 1) := by decide +kernel
theorem dl_307 : decode code 307 = .ok (.iaload, 1) := by decide +kernel
theorem dl_308 : decode code 308 = .ok (.invokevirtual 39, 3) := by decide +kernel
theorem dl_311 : decode code 311 = .ok (.aload_n 2, 1) := by decide +kernel
theorem dl_312 : decode code 312 = .ok (.aload_n 0, 1) := by decide +kernel
theorem dl_313 : decode code 313 = .ok (.iload_n 3, 1) := by decide +kernel
theorem dl_314 : decode code 314 = .ok (.iconst 1, 1) := by decide +kernel
theorem dl_315 : decode code 315 = .ok (.iadd, 1) := by decide +kernel
theorem dl_316 : decode code 316 = .ok (.iaload, 1) := by decide +kernel
theorem dl_317 : decode code 317 = .ok (.aload_n 0, 1) := by decide +kernel
theorem dl_318 : decode code 318 = .ok (.iload_n 3, 1) := by decide +kernel
theorem dl_319 : decode code 319 = .ok (.iconst 2, 1) := by decide +kernel
theorem dl_320 : decode code 320 = .ok (.iadd, 1) := by decide +kernel
theorem dl_321 : decode code 321 = .ok (.iaload, 1) := by decide +kernel
theorem dl_322 : decode code 322 = .ok (.invokevirtual 42, 3) := by decide +kernel
theorem dl_325 : decode code 325 = .ok (.if_icmp .eq 585, 3) := by decide +kernel
theorem dl_328 : decode code 328 = .ok (.iconst 0, 1) := by decide +kernel
theorem dl_329 : decode code 329 = .ok (.ireturn, 1) := by decide +kernel
theorem dl_330 : decode code 330 = .ok (.aload_n 1, 1) := by decide +kernel
theorem dl_331 : decode code 331 = .ok (.aload_n 0, 1) := by decide +kernel
theorem dl_332 : decode code 332 = .ok (.iload_n 3, 1) := by decide +kernel
theorem dl_333 : decode code 333 = .ok (.iconst 1, 1) := by decide +kernel
theorem dl_334 : decode code 334 = .ok (.iadd, 1) := by decide +kernel
theorem dl_335 : decode code 335 = .ok (.iaload, 1) := by decide +kernel
theorem dl_336 : decode code 336 = .ok (.invokevirtual 43, 3) := by decide +kernel
theorem dl_339 : decode code 339 = .ok (.aload_n 2, 1) := by decide +kernel
theorem dl_340 : decode code 340 = .ok (.aload_n 0, 1) := by decide +kernel
theorem dl_341 : decode code 341 = .ok (.iload_n 3, 1) := by decide +kernel
theorem dl_342 : decode code 342 = .ok (.iconst 1, 1) := by decide +kernel
theorem dl_343 : decode code 343 = .ok (.iadd, 1) := by decide +kernel
theorem dl_344 : decode code 344 = .ok (.iaload, 1) := by decide +kernel
theorem dl_345 : decode code 345 = .ok (.invokevirtual 46, 3) := by decide +kernel
theorem dl_348 : decode code 348 = .ok (.if_icmp .eq 562, 3) := by decide +kernel
theorem dl_351 : decode code 351 = .ok (.iconst 0, 1) := by decide +kernel
theorem dl_352 : decode code 352 = .ok (.ireturn, 1) := by decide +kernel
theorem dl_353 : decode code 353 = .ok (.aload_n 1, 1) := by decide +kernel
theorem dl_354 : decode code 354 = .ok (.aload_n 0, 1) := by decide +kernel
theorem dl_355 : decode code 355 = .ok (.iload_n 3, 1) := by decide +kernel
theorem dl_356 : decode code 356 = .ok (.iconst 1, 1) := by decide +kernel
theorem dl_357 : decode code 357 = .ok (.iadd, 1) := by decide +kernel
theorem dl_358 : decode code 358 = .ok (.iaload, 1) := by decide +kernel
theorem dl_359 : decode code 359 = .ok (.invokevirtual 47, 3) := by decide +kernel
theorem dl_362 : decode code 362 = .ok (.aload_n 2, 1) := by decide +kernel
theorem dl_363 : decode code 363 = .ok (.aload_n 0, 1) := by decide +kernel
theorem dl_364 : decode code 364 = .ok (.iload_n 3, 1) := by decide +kernel
theorem dl_365 : decode code 365 = .ok (.iconst 1, 1) := by decide +kernel
theorem dl_366 : decode code 366 = .ok (.iadd, 1) := by decide +kernel
theorem dl_367 : decode code 367 = .ok (.iaload, 1) := by decide +kernel
theorem dl_368 : decode code 368 = .ok (.invokevirtual 50, 3) := by decide +kernel
theorem dl_371 : decode code 371 = .ok (.if_icmp .eq 539, 3) := by decide +kernel
theorem dl_374 : decode code 374 = .ok (.iconst 0, 1) := by decide +kernel
theorem dl_375 : decode code 375 = .ok (.ireturn, 1) := by decide +kernel
theorem dl_376 : decode code 376 = .ok (.aload_n 1, 1) := by decide +kernel
theorem dl_377 : decode code 377 = .ok (.aload_n 0, 1) := by decide +kernel
theorem dl_378 : decode code 378 = .ok (.iload_n 3, 1) := by decide +kernel
theorem dl_379 : decode code 379 = .ok (.iconst 1, 1) := by decide +kernel
theorem dl_380 : decode code 380 = .ok (.iadd, 1) := by decide +kernel
theorem dl_381 : decode code 381 = .ok (.iaload, 1) := by decide +kernel
theorem dl_382 : decode code 382 = .ok (.aload_n 0, 1) := by decide +kernel
theorem dl_383 : decode code 383 = .ok (.iload_n 3, 1) := by decide +kernel
theorem dl_384 : decode code 384 = .ok (.iconst 2, 1) := by decide +kernel
theorem dl_385 : decode code 385 = .ok (.iadd, 1) := by decide +kernel
theorem dl_386 : decode code 386 = .ok (.iaload, 1) := by decide +kernel
theorem dl_387 : decode code 387 = .ok (.aload_n 0, 1) := by decide +kernel
theorem dl_388 : decode code 388 = .ok (.iload_n 3, 1) := by decide +kernel
theorem dl_389 : decode code 389 = .ok (.iconst 3, 1) := by decide +kernel
theorem dl_390 : decode code 390 = .ok (.iadd, 1) := by decide +kernel
theorem dl_391 : decode code 391 = .ok (.iaload, 1) := by decide +kernel
theorem dl_392 : decode code 392 = .ok (.invokevirtual 51, 3) := by decide +kernel
theorem dl_395 : decode code 395 = .ok (.aload_n 2, 1) := by decide +kernel
