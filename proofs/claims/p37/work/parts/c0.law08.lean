theorem dL_hangs_377 : decode cL_hangs 377 = .ok (.iload 10, 2) := by decide +kernel
theorem dL_hangs_379 : decode cL_hangs 379 = .ok (.iconst 2, 1) := by decide +kernel
theorem dL_hangs_380 : decode cL_hangs 380 = .ok (.invokevirtual 99, 3) := by decide +kernel
theorem dL_hangs_383 : decode cL_hangs 383 = .ok (.bipush 49, 2) := by decide +kernel
theorem dL_hangs_385 : decode cL_hangs 385 = .ok (.if_icmp .ge 7, 3) := by decide +kernel
theorem dL_hangs_388 : decode cL_hangs 388 = .ok (.iconst 1, 1) := by decide +kernel
theorem dL_hangs_389 : decode cL_hangs 389 = .ok (.goto 31, 3) := by decide +kernel
theorem dL_hangs_392 : decode cL_hangs 392 = .ok (.iconst 0, 1) := by decide +kernel
theorem dL_hangs_393 : decode cL_hangs 393 = .ok (.goto 27, 3) := by decide +kernel
theorem dL_hangs_396 : decode cL_hangs 396 = .ok (.iload 11, 2) := by decide +kernel
theorem dL_hangs_398 : decode cL_hangs 398 = .ok (.ldc 102, 2) := by decide +kernel
theorem dL_hangs_400 : decode cL_hangs 400 = .ok (.if_icmp .ne 19, 3) := by decide +kernel
theorem dL_hangs_403 : decode cL_hangs 403 = .ok (.aload_n 0, 1) := by decide +kernel
theorem dL_hangs_404 : decode cL_hangs 404 = .ok (.iload 10, 2) := by decide +kernel
theorem dL_hangs_406 : decode cL_hangs 406 = .ok (.iconst 2, 1) := by decide +kernel
theorem dL_hangs_407 : decode cL_hangs 407 = .ok (.invokevirtual 99, 3) := by decide +kernel
theorem dL_hangs_410 : decode cL_hangs 410 = .ok (.ldc 102, 2) := by decide +kernel
theorem dL_hangs_412 : decode cL_hangs 412 = .ok (.if_icmp .ne 7, 3) := by decide +kernel
theorem dL_hangs_415 : decode cL_hangs 415 = .ok (.iconst 1, 1) := by decide +kernel
theorem dL_hangs_416 : decode cL_hangs 416 = .ok (.goto 4, 3) := by decide +kernel
theorem dL_hangs_419 : decode cL_hangs 419 = .ok (.iconst 0, 1) := by decide +kernel
theorem dL_hangs_420 : decode cL_hangs 420 = .ok (.istore 7, 2) := by decide +kernel
theorem dL_hangs_422 : decode cL_hangs 422 = .ok (.iload 11, 2) := by decide +kernel
theorem dL_hangs_424 : decode cL_hangs 424 = .ok (.istore 9, 2) := by decide +kernel
theorem dL_hangs_426 : decode cL_hangs 426 = .ok (.iinc 10 1, 3) := by decide +kernel
theorem dL_hangs_429 : decode cL_hangs 429 = .ok (.goto (-124), 3) := by decide +kernel
theorem dL_hangs_432 : decode cL_hangs 432 = .ok (.aload_n 0, 1) := by decide +kernel
theorem dL_hangs_433 : decode cL_hangs 433 = .ok (.invokevirtual 103, 3) := by decide +kernel
theorem dL_hangs_436 : decode cL_hangs 436 = .ok (.istore 10, 2) := by decide +kernel
theorem dL_hangs_438 : decode cL_hangs 438 = .ok (.aload_n 0, 1) := by decide +kernel
theorem dL_hangs_439 : decode cL_hangs 439 = .ok (.invokevirtual 106, 3) := by decide +kernel
theorem dL_hangs_442 : decode cL_hangs 442 = .ok (.istore 11, 2) := by decide +kernel
theorem dL_hangs_444 : decode cL_hangs 444 = .ok (.aload_n 0, 1) := by decide +kernel
theorem dL_hangs_445 : decode cL_hangs 445 = .ok (.invokevirtual 109, 3) := by decide +kernel
theorem dL_hangs_448 : decode cL_hangs 448 = .ok (.fstore 12, 2) := by decide +kernel
theorem dL_hangs_450 : decode cL_hangs 450 = .ok (.iload 7, 2) := by decide +kernel
theorem dL_hangs_452 : decode cL_hangs 452 = .ok (.ifCond .eq 146, 3) := by decide +kernel
theorem dL_hangs_455 : decode cL_hangs 455 = .ok (.iload_n 3, 1) := by decide +kernel
theorem dL_hangs_456 : decode cL_hangs 456 = .ok (.iload_n 2, 1) := by decide +kernel
theorem dL_hangs_457 : decode cL_hangs 457 = .ok (.iadd, 1) := by decide +kernel
theorem dL_hangs_458 : decode cL_hangs 458 = .ok (.iload_n 1, 1) := by decide +kernel
theorem dL_hangs_459 : decode cL_hangs 459 = .ok (.if_icmp .ne 139, 3) := by decide +kernel
theorem dL_hangs_462 : decode cL_hangs 462 = .ok (.aload_n 0, 1) := by decide +kernel
theorem dL_hangs_463 : decode cL_hangs 463 = .ok (.iload 8, 2) := by decide +kernel
theorem dL_hangs_465 : decode cL_hangs 465 = .ok (.iconst 0, 1) := by decide +kernel
theorem dL_hangs_466 : decode cL_hangs 466 = .ok (.invokevirtual 99, 3) := by decide +kernel
theorem dL_hangs_469 : decode cL_hangs 469 = .ok (.ldc 102, 2) := by decide +kernel
theorem dL_hangs_471 : decode cL_hangs 471 = .ok (.if_icmp .ne 127, 3) := by decide +kernel
theorem dL_hangs_474 : decode cL_hangs 474 = .ok (.iload 10, 2) := by decide +kernel
theorem dL_hangs_476 : decode cL_hangs 476 = .ok (.ldc 102, 2) := by decide +kernel
theorem dL_hangs_478 : decode cL_hangs 478 = .ok (.if_icmp .eq 23, 3) := by decide +kernel
theorem dL_hangs_481 : decode cL_hangs 481 = .ok (.iload 10, 2) := by decide +kernel
theorem dL_hangs_483 : decode cL_hangs 483 = .ok (.ifCond .lt 115, 3) := by decide +kernel
theorem dL_hangs_486 : decode cL_hangs 486 = .ok (.iload 10, 2) := by decide +kernel
theorem dL_hangs_488 : decode cL_hangs 488 = .ok (.iconst 4, 1) := by decide +kernel
theorem dL_hangs_489 : decode cL_hangs 489 = .ok (.if_icmp .ge 109, 3) := by decide +kernel
theorem dL_hangs_492 : decode cL_hangs 492 = .ok (.aload_n 0, 1) := by decide +kernel
theorem dL_hangs_493 : decode cL_hangs 493 = .ok (.iload 10, 2) := by decide +kernel
theorem dL_hangs_495 : decode cL_hangs 495 = .ok (.invokevirtual 80, 3) := by decide +kernel
theorem dL_hangs_498 : decode cL_hangs 498 = .ok (.ifCond .le 100, 3) := by decide +kernel
theorem dL_hangs_501 : decode cL_hangs 501 = .ok (.iload 5, 2) := by decide +kernel
theorem dL_hangs_503 : decode cL_hangs 503 = .ok (.ifCond .eq 16, 3) := by decide +kernel
theorem dL_hangs_506 : decode cL_hangs 506 = .ok (.aload_n 0, 1) := by decide +kernel
theorem dL_hangs_507 : decode cL_hangs 507 = .ok (.iconst 1, 1) := by decide +kernel
theorem dL_hangs_508 : decode cL_hangs 508 = .ok (.invokevirtual 77, 3) := by decide +kernel
theorem dL_hangs_511 : decode cL_hangs 511 = .ok (.ifCond .eq 8, 3) := by decide +kernel
theorem dL_hangs_514 : decode cL_hangs 514 = .ok (.iload 10, 2) := by decide +kernel
theorem dL_hangs_516 : decode cL_hangs 516 = .ok (.ifCond .lt 82, 3) := by decide +kernel
theorem dL_hangs_519 : decode cL_hangs 519 = .ok (.iload 4, 2) := by decide +kernel
theorem dL_hangs_521 : decode cL_hangs 521 = .ok (.ifCond .eq 15, 3) := by decide +kernel
theorem dL_hangs_524 : decode cL_hangs 524 = .ok (.iload 10, 2) := by decide +kernel
theorem dL_hangs_526 : decode cL_hangs 526 = .ok (.ldc 102, 2) := by decide +kernel
theorem dL_hangs_528 : decode cL_hangs 528 = .ok (.if_icmp .ne 70, 3) := by decide +kernel
theorem dL_hangs_531 : decode cL_hangs 531 = .ok (.iload 11, 2) := by decide +kernel
theorem dL_hangs_533 : decode cL_hangs 533 = .ok (.ifCond .ne 65, 3) := by decide +kernel
theorem dL_hangs_536 : decode cL_hangs 536 = .ok (.iload 4, 2) := by decide +kernel
theorem dL_hangs_538 : decode cL_hangs 538 = .ok (.ifCond .ne 15, 3) := by decide +kernel
theorem dL_hangs_541 : decode cL_hangs 541 = .ok (.iload 11, 2) := by decide +kernel
theorem dL_hangs_543 : decode cL_hangs 543 = .ok (.ifCond .gt 10, 3) := by decide +kernel
theorem dL_hangs_546 : decode cL_hangs 546 = .ok (.iload 11, 2) := by decide +kernel
theorem dL_hangs_548 : decode cL_hangs 548 = .ok (.ldc 102, 2) := by decide +kernel
theorem dL_hangs_550 : decode cL_hangs 550 = .ok (.if_icmp .ne 48, 3) := by decide +kernel
theorem dL_hangs_553 : decode cL_hangs 553 = .ok (.fload 12, 2) := by decide +kernel
theorem dL_hangs_555 : decode cL_hangs 555 = .ok (.fconst 0, 1) := by decide +kernel
theorem dL_hangs_556 : decode cL_hangs 556 = .ok (.fcmp .l, 1) := by decide +kernel
theorem dL_hangs_557 : decode cL_hangs 557 = .ok (.ifCond .lt 41, 3) := by decide +kernel
theorem dL_hangs_560 : decode cL_hangs 560 = .ok (.fload 12, 2) := by decide +kernel
theorem dL_hangs_562 : decode cL_hangs 562 = .ok (.fconst 1, 1) := by decide +kernel
theorem dL_hangs_563 : decode cL_hangs 563 = .ok (.fcmp .g, 1) := by decide +kernel
theorem dL_hangs_564 : decode cL_hangs 564 = .ok (.ifCond .gt 34, 3) := by decide +kernel
theorem dL_hangs_567 : decode cL_hangs 567 = .ok (.iload_n 1, 1) := by decide +kernel
theorem dL_hangs_568 : decode cL_hangs 568 = .ok (.ifCond .ne 13, 3) := by decide +kernel
theorem dL_hangs_571 : decode cL_hangs 571 = .ok (.fload 12, 2) := by decide +kernel
theorem dL_hangs_573 : decode cL_hangs 573 = .ok (.fconst 0, 1) := by decide +kernel
theorem dL_hangs_574 : decode cL_hangs 574 = .ok (.fcmp .l, 1) := by decide +kernel
theorem dL_hangs_575 : decode cL_hangs 575 = .ok (.ifCond .ne 23, 3) := by decide +kernel
theorem dL_hangs_578 : decode cL_hangs 578 = .ok (.goto 16, 3) := by decide +kernel
theorem dL_hangs_581 : decode cL_hangs 581 = .ok (.fload 12, 2) := by decide +kernel
theorem dL_hangs_583 : decode cL_hangs 583 = .ok (.iload_n 1, 1) := by decide +kernel
theorem dL_hangs_584 : decode cL_hangs 584 = .ok (.iload_n 2, 1) := by decide +kernel
theorem dL_hangs_585 : decode cL_hangs 585 = .ok (.isub, 1) := by decide +kernel
theorem dL_hangs_586 : decode cL_hangs 586 = .ok (.i2f, 1) := by decide +kernel
theorem dL_hangs_587 : decode cL_hangs 587 = .ok (.iload_n 1, 1) := by decide +kernel
theorem dL_hangs_588 : decode cL_hangs 588 = .ok (.i2f, 1) := by decide +kernel
theorem dL_hangs_589 : decode cL_hangs 589 = .ok (.fdiv, 1) := by decide +kernel
theorem dL_hangs_590 : decode cL_hangs 590 = .ok (.fcmp .l, 1) := by decide +kernel
theorem dL_hangs_591 : decode cL_hangs 591 = .ok (.ifCond .ne 7, 3) := by decide +kernel
theorem dL_hangs_594 : decode cL_hangs 594 = .ok (.iconst 1, 1) := by decide +kernel
theorem dL_hangs_595 : decode cL_hangs 595 = .ok (.goto 4, 3) := by decide +kernel
theorem dL_hangs_598 : decode cL_hangs 598 = .ok (.iconst 0, 1) := by decide +kernel
