theorem dL_refuses_313 : decode cL_refuses 313 = .ok (.ldc 129, 2) := by decide +kernel
theorem dL_refuses_315 : decode cL_refuses 315 = .ok (.if_icmp .ne 7, 3) := by decide +kernel
theorem dL_refuses_318 : decode cL_refuses 318 = .ok (.iconst 1, 1) := by decide +kernel
theorem dL_refuses_319 : decode cL_refuses 319 = .ok (.goto 4, 3) := by decide +kernel
theorem dL_refuses_322 : decode cL_refuses 322 = .ok (.iconst 0, 1) := by decide +kernel
theorem dL_refuses_323 : decode cL_refuses 323 = .ok (.istore 4, 2) := by decide +kernel
theorem dL_refuses_325 : decode cL_refuses 325 = .ok (.iload 4, 2) := by decide +kernel
theorem dL_refuses_327 : decode cL_refuses 327 = .ok (.ifCond .eq 202, 3) := by decide +kernel
theorem dL_refuses_330 : decode cL_refuses 330 = .ok (.aload_n 0, 1) := by decide +kernel
theorem dL_refuses_331 : decode cL_refuses 331 = .ok (.iload_n 2, 1) := by decide +kernel
theorem dL_refuses_332 : decode cL_refuses 332 = .ok (.invokevirtual 80, 3) := by decide +kernel
theorem dL_refuses_335 : decode cL_refuses 335 = .ok (.ldc 98, 2) := by decide +kernel
theorem dL_refuses_337 : decode cL_refuses 337 = .ok (.if_icmp .ne 192, 3) := by decide +kernel
theorem dL_refuses_340 : decode cL_refuses 340 = .ok (.aload_n 0, 1) := by decide +kernel
theorem dL_refuses_341 : decode cL_refuses 341 = .ok (.iload_n 2, 1) := by decide +kernel
theorem dL_refuses_342 : decode cL_refuses 342 = .ok (.invokevirtual 86, 3) := by decide +kernel
theorem dL_refuses_345 : decode cL_refuses 345 = .ok (.ldc 98, 2) := by decide +kernel
theorem dL_refuses_347 : decode cL_refuses 347 = .ok (.if_icmp .ne 182, 3) := by decide +kernel
theorem dL_refuses_350 : decode cL_refuses 350 = .ok (.aload_n 0, 1) := by decide +kernel
theorem dL_refuses_351 : decode cL_refuses 351 = .ok (.iload_n 2, 1) := by decide +kernel
theorem dL_refuses_352 : decode cL_refuses 352 = .ok (.iconst 0, 1) := by decide +kernel
theorem dL_refuses_353 : decode cL_refuses 353 = .ok (.invokevirtual 95, 3) := by decide +kernel
theorem dL_refuses_356 : decode cL_refuses 356 = .ok (.ldc 98, 2) := by decide +kernel
theorem dL_refuses_358 : decode cL_refuses 358 = .ok (.if_icmp .ne 171, 3) := by decide +kernel
theorem dL_refuses_361 : decode cL_refuses 361 = .ok (.aload_n 0, 1) := by decide +kernel
theorem dL_refuses_362 : decode cL_refuses 362 = .ok (.bipush 32, 2) := by decide +kernel
theorem dL_refuses_364 : decode cL_refuses 364 = .ok (.iload_n 1, 1) := by decide +kernel
theorem dL_refuses_365 : decode cL_refuses 365 = .ok (.iadd, 1) := by decide +kernel
theorem dL_refuses_366 : decode cL_refuses 366 = .ok (.invokevirtual 125, 3) := by decide +kernel
theorem dL_refuses_369 : decode cL_refuses 369 = .ok (.ldc 98, 2) := by decide +kernel
theorem dL_refuses_371 : decode cL_refuses 371 = .ok (.if_icmp .ne 158, 3) := by decide +kernel
theorem dL_refuses_374 : decode cL_refuses 374 = .ok (.aload_n 0, 1) := by decide +kernel
theorem dL_refuses_375 : decode cL_refuses 375 = .ok (.iload_n 3, 1) := by decide +kernel
theorem dL_refuses_376 : decode cL_refuses 376 = .ok (.invokevirtual 116, 3) := by decide +kernel
theorem dL_refuses_379 : decode cL_refuses 379 = .ok (.ldc 98, 2) := by decide +kernel
theorem dL_refuses_381 : decode cL_refuses 381 = .ok (.if_icmp .ne 148, 3) := by decide +kernel
theorem dL_refuses_384 : decode cL_refuses 384 = .ok (.aload_n 0, 1) := by decide +kernel
theorem dL_refuses_385 : decode cL_refuses 385 = .ok (.iload_n 3, 1) := by decide +kernel
theorem dL_refuses_386 : decode cL_refuses 386 = .ok (.iconst 2, 1) := by decide +kernel
theorem dL_refuses_387 : decode cL_refuses 387 = .ok (.invokevirtual 119, 3) := by decide +kernel
theorem dL_refuses_390 : decode cL_refuses 390 = .ok (.ldc 98, 2) := by decide +kernel
theorem dL_refuses_392 : decode cL_refuses 392 = .ok (.if_icmp .ne 137, 3) := by decide +kernel
theorem dL_refuses_395 : decode cL_refuses 395 = .ok (.aload_n 0, 1) := by decide +kernel
theorem dL_refuses_396 : decode cL_refuses 396 = .ok (.iconst 0, 1) := by decide +kernel
theorem dL_refuses_397 : decode cL_refuses 397 = .ok (.iconst 2, 1) := by decide +kernel
theorem dL_refuses_398 : decode cL_refuses 398 = .ok (.iload_n 1, 1) := by decide +kernel
theorem dL_refuses_399 : decode cL_refuses 399 = .ok (.iadd, 1) := by decide +kernel
theorem dL_refuses_400 : decode cL_refuses 400 = .ok (.invokevirtual 119, 3) := by decide +kernel
theorem dL_refuses_403 : decode cL_refuses 403 = .ok (.ldc 129, 2) := by decide +kernel
theorem dL_refuses_405 : decode cL_refuses 405 = .ok (.if_icmp .ne 124, 3) := by decide +kernel
theorem dL_refuses_408 : decode cL_refuses 408 = .ok (.aload_n 0, 1) := by decide +kernel
theorem dL_refuses_409 : decode cL_refuses 409 = .ok (.iconst (-1), 1) := by decide +kernel
theorem dL_refuses_410 : decode cL_refuses 410 = .ok (.iload_n 1, 1) := by decide +kernel
theorem dL_refuses_411 : decode cL_refuses 411 = .ok (.isub, 1) := by decide +kernel
theorem dL_refuses_412 : decode cL_refuses 412 = .ok (.invokevirtual 113, 3) := by decide +kernel
theorem dL_refuses_415 : decode cL_refuses 415 = .ok (.ldc 98, 2) := by decide +kernel
theorem dL_refuses_417 : decode cL_refuses 417 = .ok (.if_icmp .ne 112, 3) := by decide +kernel
theorem dL_refuses_420 : decode cL_refuses 420 = .ok (.aload_n 0, 1) := by decide +kernel
theorem dL_refuses_421 : decode cL_refuses 421 = .ok (.iconst 2, 1) := by decide +kernel
theorem dL_refuses_422 : decode cL_refuses 422 = .ok (.iload_n 1, 1) := by decide +kernel
theorem dL_refuses_423 : decode cL_refuses 423 = .ok (.iadd, 1) := by decide +kernel
theorem dL_refuses_424 : decode cL_refuses 424 = .ok (.invokevirtual 77, 3) := by decide +kernel
theorem dL_refuses_427 : decode cL_refuses 427 = .ok (.ldc 98, 2) := by decide +kernel
theorem dL_refuses_429 : decode cL_refuses 429 = .ok (.if_icmp .ne 100, 3) := by decide +kernel
theorem dL_refuses_432 : decode cL_refuses 432 = .ok (.aload_n 0, 1) := by decide +kernel
theorem dL_refuses_433 : decode cL_refuses 433 = .ok (.iload_n 3, 1) := by decide +kernel
theorem dL_refuses_434 : decode cL_refuses 434 = .ok (.invokevirtual 122, 3) := by decide +kernel
theorem dL_refuses_437 : decode cL_refuses 437 = .ok (.ldc 98, 2) := by decide +kernel
theorem dL_refuses_439 : decode cL_refuses 439 = .ok (.if_icmp .ne 90, 3) := by decide +kernel
theorem dL_refuses_442 : decode cL_refuses 442 = .ok (.aload_n 0, 1) := by decide +kernel
theorem dL_refuses_443 : decode cL_refuses 443 = .ok (.iload_n 2, 1) := by decide +kernel
theorem dL_refuses_444 : decode cL_refuses 444 = .ok (.invokevirtual 83, 3) := by decide +kernel
theorem dL_refuses_447 : decode cL_refuses 447 = .ok (.ldc 98, 2) := by decide +kernel
theorem dL_refuses_449 : decode cL_refuses 449 = .ok (.if_icmp .ne 80, 3) := by decide +kernel
theorem dL_refuses_452 : decode cL_refuses 452 = .ok (.aload_n 0, 1) := by decide +kernel
theorem dL_refuses_453 : decode cL_refuses 453 = .ok (.iload_n 2, 1) := by decide +kernel
theorem dL_refuses_454 : decode cL_refuses 454 = .ok (.invokevirtual 89, 3) := by decide +kernel
theorem dL_refuses_457 : decode cL_refuses 457 = .ok (.ldc 98, 2) := by decide +kernel
theorem dL_refuses_459 : decode cL_refuses 459 = .ok (.if_icmp .ne 70, 3) := by decide +kernel
theorem dL_refuses_462 : decode cL_refuses 462 = .ok (.aload_n 0, 1) := by decide +kernel
theorem dL_refuses_463 : decode cL_refuses 463 = .ok (.iload_n 2, 1) := by decide +kernel
theorem dL_refuses_464 : decode cL_refuses 464 = .ok (.invokevirtual 92, 3) := by decide +kernel
theorem dL_refuses_467 : decode cL_refuses 467 = .ok (.ldc 98, 2) := by decide +kernel
theorem dL_refuses_469 : decode cL_refuses 469 = .ok (.if_icmp .ne 60, 3) := by decide +kernel
theorem dL_refuses_472 : decode cL_refuses 472 = .ok (.aload_n 0, 1) := by decide +kernel
theorem dL_refuses_473 : decode cL_refuses 473 = .ok (.iconst (-1), 1) := by decide +kernel
theorem dL_refuses_474 : decode cL_refuses 474 = .ok (.iload_n 1, 1) := by decide +kernel
theorem dL_refuses_475 : decode cL_refuses 475 = .ok (.isub, 1) := by decide +kernel
theorem dL_refuses_476 : decode cL_refuses 476 = .ok (.iconst 0, 1) := by decide +kernel
theorem dL_refuses_477 : decode cL_refuses 477 = .ok (.invokevirtual 99, 3) := by decide +kernel
theorem dL_refuses_480 : decode cL_refuses 480 = .ok (.ldc 129, 2) := by decide +kernel
theorem dL_refuses_482 : decode cL_refuses 482 = .ok (.if_icmp .ne 47, 3) := by decide +kernel
theorem dL_refuses_485 : decode cL_refuses 485 = .ok (.aload_n 0, 1) := by decide +kernel
theorem dL_refuses_486 : decode cL_refuses 486 = .ok (.iconst 0, 1) := by decide +kernel
theorem dL_refuses_487 : decode cL_refuses 487 = .ok (.iconst 3, 1) := by decide +kernel
theorem dL_refuses_488 : decode cL_refuses 488 = .ok (.iload_n 1, 1) := by decide +kernel
theorem dL_refuses_489 : decode cL_refuses 489 = .ok (.iadd, 1) := by decide +kernel
theorem dL_refuses_490 : decode cL_refuses 490 = .ok (.invokevirtual 99, 3) := by decide +kernel
theorem dL_refuses_493 : decode cL_refuses 493 = .ok (.ldc 129, 2) := by decide +kernel
theorem dL_refuses_495 : decode cL_refuses 495 = .ok (.if_icmp .ne 34, 3) := by decide +kernel
theorem dL_refuses_498 : decode cL_refuses 498 = .ok (.aload_n 0, 1) := by decide +kernel
theorem dL_refuses_499 : decode cL_refuses 499 = .ok (.bipush 21, 2) := by decide +kernel
theorem dL_refuses_501 : decode cL_refuses 501 = .ok (.iload_n 1, 1) := by decide +kernel
theorem dL_refuses_502 : decode cL_refuses 502 = .ok (.iadd, 1) := by decide +kernel
theorem dL_refuses_503 : decode cL_refuses 503 = .ok (.iconst 0, 1) := by decide +kernel
theorem dL_refuses_504 : decode cL_refuses 504 = .ok (.invokevirtual 131, 3) := by decide +kernel
theorem dL_refuses_507 : decode cL_refuses 507 = .ok (.ldc 129, 2) := by decide +kernel
theorem dL_refuses_509 : decode cL_refuses 509 = .ok (.if_icmp .ne 20, 3) := by decide +kernel
theorem dL_refuses_512 : decode cL_refuses 512 = .ok (.aload_n 0, 1) := by decide +kernel
theorem dL_refuses_513 : decode cL_refuses 513 = .ok (.bipush 32, 2) := by decide +kernel
