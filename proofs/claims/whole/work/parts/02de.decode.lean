theorem zd_L_law_318 : decode code 318 = .ok (.iconst 1, 1) := by decide +kernel
theorem zd_L_law_319 : decode code 319 = .ok (.iadd, 1) := by decide +kernel
theorem zd_L_law_320 : decode code 320 = .ok (.iaload, 1) := by decide +kernel
theorem zd_L_law_321 : decode code 321 = .ok (.aload_n 0, 1) := by decide +kernel
theorem zd_L_law_322 : decode code 322 = .ok (.iload_n 3, 1) := by decide +kernel
theorem zd_L_law_323 : decode code 323 = .ok (.iconst 2, 1) := by decide +kernel
theorem zd_L_law_324 : decode code 324 = .ok (.iadd, 1) := by decide +kernel
theorem zd_L_law_325 : decode code 325 = .ok (.iaload, 1) := by decide +kernel
theorem zd_L_law_326 : decode code 326 = .ok (.invokevirtual 41, 3) := by decide +kernel
theorem zd_L_law_329 : decode code 329 = .ok (.if_icmp .eq 221, 3) := by decide +kernel
theorem zd_L_law_332 : decode code 332 = .ok (.iconst 0, 1) := by decide +kernel
theorem zd_L_law_333 : decode code 333 = .ok (.ireturn, 1) := by decide +kernel
theorem zd_L_law_334 : decode code 334 = .ok (.aload_n 1, 1) := by decide +kernel
theorem zd_L_law_335 : decode code 335 = .ok (.invokevirtual 42, 3) := by decide +kernel
theorem zd_L_law_338 : decode code 338 = .ok (.aload_n 2, 1) := by decide +kernel
theorem zd_L_law_339 : decode code 339 = .ok (.invokevirtual 46, 3) := by decide +kernel
theorem zd_L_law_342 : decode code 342 = .ok (.if_icmp .eq 208, 3) := by decide +kernel
theorem zd_L_law_345 : decode code 345 = .ok (.iconst 0, 1) := by decide +kernel
theorem zd_L_law_346 : decode code 346 = .ok (.ireturn, 1) := by decide +kernel
theorem zd_L_law_347 : decode code 347 = .ok (.aload_n 1, 1) := by decide +kernel
theorem zd_L_law_348 : decode code 348 = .ok (.invokevirtual 47, 3) := by decide +kernel
theorem zd_L_law_351 : decode code 351 = .ok (.aload_n 2, 1) := by decide +kernel
theorem zd_L_law_352 : decode code 352 = .ok (.invokevirtual 50, 3) := by decide +kernel
theorem zd_L_law_355 : decode code 355 = .ok (.if_icmp .eq 195, 3) := by decide +kernel
theorem zd_L_law_358 : decode code 358 = .ok (.iconst 0, 1) := by decide +kernel
theorem zd_L_law_359 : decode code 359 = .ok (.ireturn, 1) := by decide +kernel
theorem zd_L_law_360 : decode code 360 = .ok (.aload_n 1, 1) := by decide +kernel
theorem zd_L_law_361 : decode code 361 = .ok (.invokevirtual 51, 3) := by decide +kernel
theorem zd_L_law_364 : decode code 364 = .ok (.aload_n 2, 1) := by decide +kernel
theorem zd_L_law_365 : decode code 365 = .ok (.invokevirtual 54, 3) := by decide +kernel
theorem zd_L_law_368 : decode code 368 = .ok (.if_icmp .eq 182, 3) := by decide +kernel
theorem zd_L_law_371 : decode code 371 = .ok (.iconst 0, 1) := by decide +kernel
theorem zd_L_law_372 : decode code 372 = .ok (.ireturn, 1) := by decide +kernel
theorem zd_L_law_373 : decode code 373 = .ok (.aload_n 1, 1) := by decide +kernel
theorem zd_L_law_374 : decode code 374 = .ok (.invokevirtual 55, 3) := by decide +kernel
theorem zd_L_law_377 : decode code 377 = .ok (.aload_n 2, 1) := by decide +kernel
theorem zd_L_law_378 : decode code 378 = .ok (.invokevirtual 58, 3) := by decide +kernel
theorem zd_L_law_381 : decode code 381 = .ok (.if_icmp .eq 169, 3) := by decide +kernel
theorem zd_L_law_384 : decode code 384 = .ok (.iconst 0, 1) := by decide +kernel
theorem zd_L_law_385 : decode code 385 = .ok (.ireturn, 1) := by decide +kernel
theorem zd_L_law_386 : decode code 386 = .ok (.aload_n 1, 1) := by decide +kernel
theorem zd_L_law_387 : decode code 387 = .ok (.invokevirtual 59, 3) := by decide +kernel
theorem zd_L_law_390 : decode code 390 = .ok (.aload_n 2, 1) := by decide +kernel
theorem zd_L_law_391 : decode code 391 = .ok (.invokevirtual 62, 3) := by decide +kernel
theorem zd_L_law_394 : decode code 394 = .ok (.if_icmp .eq 156, 3) := by decide +kernel
theorem zd_L_law_397 : decode code 397 = .ok (.iconst 0, 1) := by decide +kernel
theorem zd_L_law_398 : decode code 398 = .ok (.ireturn, 1) := by decide +kernel
theorem zd_L_law_399 : decode code 399 = .ok (.aload_n 1, 1) := by decide +kernel
theorem zd_L_law_400 : decode code 400 = .ok (.invokevirtual 63, 3) := by decide +kernel
theorem zd_L_law_403 : decode code 403 = .ok (.aload_n 2, 1) := by decide +kernel
theorem zd_L_law_404 : decode code 404 = .ok (.invokevirtual 66, 3) := by decide +kernel
theorem zd_L_law_407 : decode code 407 = .ok (.if_icmp .eq 143, 3) := by decide +kernel
theorem zd_L_law_410 : decode code 410 = .ok (.iconst 0, 1) := by decide +kernel
theorem zd_L_law_411 : decode code 411 = .ok (.ireturn, 1) := by decide +kernel
theorem zd_L_law_412 : decode code 412 = .ok (.aload_n 1, 1) := by decide +kernel
theorem zd_L_law_413 : decode code 413 = .ok (.invokevirtual 67, 3) := by decide +kernel
theorem zd_L_law_416 : decode code 416 = .ok (.aload_n 2, 1) := by decide +kernel
theorem zd_L_law_417 : decode code 417 = .ok (.invokevirtual 71, 3) := by decide +kernel
theorem zd_L_law_420 : decode code 420 = .ok (.if_icmp .eq 130, 3) := by decide +kernel
theorem zd_L_law_423 : decode code 423 = .ok (.iconst 0, 1) := by decide +kernel
theorem zd_L_law_424 : decode code 424 = .ok (.ireturn, 1) := by decide +kernel
theorem zd_L_law_425 : decode code 425 = .ok (.aload_n 1, 1) := by decide +kernel
theorem zd_L_law_426 : decode code 426 = .ok (.invokevirtual 72, 3) := by decide +kernel
theorem zd_L_law_429 : decode code 429 = .ok (.aload_n 2, 1) := by decide +kernel
theorem zd_L_law_430 : decode code 430 = .ok (.invokevirtual 75, 3) := by decide +kernel
theorem zd_L_law_433 : decode code 433 = .ok (.if_icmp .eq 117, 3) := by decide +kernel
theorem zd_L_law_436 : decode code 436 = .ok (.iconst 0, 1) := by decide +kernel
theorem zd_L_law_437 : decode code 437 = .ok (.ireturn, 1) := by decide +kernel
theorem zd_L_law_438 : decode code 438 = .ok (.aload_n 1, 1) := by decide +kernel
theorem zd_L_law_439 : decode code 439 = .ok (.aload_n 0, 1) := by decide +kernel
theorem zd_L_law_440 : decode code 440 = .ok (.iload_n 3, 1) := by decide +kernel
theorem zd_L_law_441 : decode code 441 = .ok (.iconst 1, 1) := by decide +kernel
theorem zd_L_law_442 : decode code 442 = .ok (.iadd, 1) := by decide +kernel
theorem zd_L_law_443 : decode code 443 = .ok (.iaload, 1) := by decide +kernel
theorem zd_L_law_444 : decode code 444 = .ok (.aload_n 0, 1) := by decide +kernel
theorem zd_L_law_445 : decode code 445 = .ok (.iload_n 3, 1) := by decide +kernel
theorem zd_L_law_446 : decode code 446 = .ok (.iconst 2, 1) := by decide +kernel
theorem zd_L_law_447 : decode code 447 = .ok (.iadd, 1) := by decide +kernel
theorem zd_L_law_448 : decode code 448 = .ok (.iaload, 1) := by decide +kernel
theorem zd_L_law_449 : decode code 449 = .ok (.invokevirtual 76, 3) := by decide +kernel
theorem zd_L_law_452 : decode code 452 = .ok (.aload_n 2, 1) := by decide +kernel
theorem zd_L_law_453 : decode code 453 = .ok (.aload_n 0, 1) := by decide +kernel
theorem zd_L_law_454 : decode code 454 = .ok (.iload_n 3, 1) := by decide +kernel
theorem zd_L_law_455 : decode code 455 = .ok (.iconst 1, 1) := by decide +kernel
theorem zd_L_law_456 : decode code 456 = .ok (.iadd, 1) := by decide +kernel
theorem zd_L_law_457 : decode code 457 = .ok (.iaload, 1) := by decide +kernel
theorem zd_L_law_458 : decode code 458 = .ok (.aload_n 0, 1) := by decide +kernel
theorem zd_L_law_459 : decode code 459 = .ok (.iload_n 3, 1) := by decide +kernel
theorem zd_L_law_460 : decode code 460 = .ok (.iconst 2, 1) := by decide +kernel
theorem zd_L_law_461 : decode code 461 = .ok (.iadd, 1) := by decide +kernel
