theorem dL_acts_284 : decode cL_acts 284 = .ok (.istore 8, 2) := by decide +kernel
theorem dL_acts_286 : decode cL_acts 286 = .ok (.iload 6, 2) := by decide +kernel
theorem dL_acts_288 : decode cL_acts 288 = .ok (.ifCond .le 12, 3) := by decide +kernel
theorem dL_acts_291 : decode cL_acts 291 = .ok (.aload_n 0, 1) := by decide +kernel
theorem dL_acts_292 : decode cL_acts 292 = .ok (.bipush 59, 2) := by decide +kernel
theorem dL_acts_294 : decode cL_acts 294 = .ok (.invokevirtual 13, 3) := by decide +kernel
theorem dL_acts_297 : decode cL_acts 297 = .ok (.goto 5, 3) := by decide +kernel
theorem dL_acts_300 : decode cL_acts 300 = .ok (.iload 4, 2) := by decide +kernel
theorem dL_acts_302 : decode cL_acts 302 = .ok (.istore 4, 2) := by decide +kernel
theorem dL_acts_304 : decode cL_acts 304 = .ok (.aload_n 0, 1) := by decide +kernel
theorem dL_acts_305 : decode cL_acts 305 = .ok (.iload 8, 2) := by decide +kernel
theorem dL_acts_307 : decode cL_acts 307 = .ok (.iload 8, 2) := by decide +kernel
theorem dL_acts_309 : decode cL_acts 309 = .ok (.bipush 7, 2) := by decide +kernel
theorem dL_acts_311 : decode cL_acts 311 = .ok (.if_icmp .ne 14, 3) := by decide +kernel
theorem dL_acts_314 : decode cL_acts 314 = .ok (.iload 7, 2) := by decide +kernel
theorem dL_acts_316 : decode cL_acts 316 = .ok (.bipush 12, 2) := by decide +kernel
theorem dL_acts_318 : decode cL_acts 318 = .ok (.idiv, 1) := by decide +kernel
theorem dL_acts_319 : decode cL_acts 319 = .ok (.bipush 16, 2) := by decide +kernel
theorem dL_acts_321 : decode cL_acts 321 = .ok (.irem, 1) := by decide +kernel
theorem dL_acts_322 : decode cL_acts 322 = .ok (.goto 10, 3) := by decide +kernel
theorem dL_acts_325 : decode cL_acts 325 = .ok (.iload 7, 2) := by decide +kernel
theorem dL_acts_327 : decode cL_acts 327 = .ok (.bipush 12, 2) := by decide +kernel
theorem dL_acts_329 : decode cL_acts 329 = .ok (.idiv, 1) := by decide +kernel
theorem dL_acts_330 : decode cL_acts 330 = .ok (.iconst 4, 1) := by decide +kernel
theorem dL_acts_331 : decode cL_acts 331 = .ok (.irem, 1) := by decide +kernel
theorem dL_acts_332 : decode cL_acts 332 = .ok (.iload 8, 2) := by decide +kernel
theorem dL_acts_334 : decode cL_acts 334 = .ok (.ifCond .ne 17, 3) := by decide +kernel
theorem dL_acts_337 : decode cL_acts 337 = .ok (.iload 7, 2) := by decide +kernel
theorem dL_acts_339 : decode cL_acts 339 = .ok (.bipush 48, 2) := by decide +kernel
theorem dL_acts_341 : decode cL_acts 341 = .ok (.idiv, 1) := by decide +kernel
theorem dL_acts_342 : decode cL_acts 342 = .ok (.bipush 41, 2) := by decide +kernel
theorem dL_acts_344 : decode cL_acts 344 = .ok (.irem, 1) := by decide +kernel
theorem dL_acts_345 : decode cL_acts 345 = .ok (.bipush 20, 2) := by decide +kernel
theorem dL_acts_347 : decode cL_acts 347 = .ok (.isub, 1) := by decide +kernel
theorem dL_acts_348 : decode cL_acts 348 = .ok (.goto 28, 3) := by decide +kernel
theorem dL_acts_351 : decode cL_acts 351 = .ok (.iload 8, 2) := by decide +kernel
theorem dL_acts_353 : decode cL_acts 353 = .ok (.bipush 7, 2) := by decide +kernel
theorem dL_acts_355 : decode cL_acts 355 = .ok (.if_icmp .le 14, 3) := by decide +kernel
theorem dL_acts_358 : decode cL_acts 358 = .ok (.iload 7, 2) := by decide +kernel
theorem dL_acts_360 : decode cL_acts 360 = .ok (.bipush 48, 2) := by decide +kernel
theorem dL_acts_362 : decode cL_acts 362 = .ok (.idiv, 1) := by decide +kernel
theorem dL_acts_363 : decode cL_acts 363 = .ok (.bipush 16, 2) := by decide +kernel
theorem dL_acts_365 : decode cL_acts 365 = .ok (.irem, 1) := by decide +kernel
theorem dL_acts_366 : decode cL_acts 366 = .ok (.goto 10, 3) := by decide +kernel
theorem dL_acts_369 : decode cL_acts 369 = .ok (.iload 7, 2) := by decide +kernel
theorem dL_acts_371 : decode cL_acts 371 = .ok (.bipush 48, 2) := by decide +kernel
theorem dL_acts_373 : decode cL_acts 373 = .ok (.idiv, 1) := by decide +kernel
theorem dL_acts_374 : decode cL_acts 374 = .ok (.iconst 4, 1) := by decide +kernel
theorem dL_acts_375 : decode cL_acts 375 = .ok (.irem, 1) := by decide +kernel
theorem dL_acts_376 : decode cL_acts 376 = .ok (.invokestatic 61, 3) := by decide +kernel
theorem dL_acts_379 : decode cL_acts 379 = .ok (.istore 4, 2) := by decide +kernel
theorem dL_acts_381 : decode cL_acts 381 = .ok (.iinc 6 1, 3) := by decide +kernel
theorem dL_acts_384 : decode cL_acts 384 = .ok (.goto (-120), 3) := by decide +kernel
theorem dL_acts_387 : decode cL_acts 387 = .ok (.iload 4, 2) := by decide +kernel
theorem dL_acts_389 : decode cL_acts 389 = .ok (.ifCond .ge 8, 3) := by decide +kernel
theorem dL_acts_392 : decode cL_acts 392 = .ok (.bipush (-9), 2) := by decide +kernel
theorem dL_acts_394 : decode cL_acts 394 = .ok (.goto 13, 3) := by decide +kernel
theorem dL_acts_397 : decode cL_acts 397 = .ok (.aload_n 0, 1) := by decide +kernel
theorem dL_acts_398 : decode cL_acts 398 = .ok (.iload_n 2, 1) := by decide +kernel
theorem dL_acts_399 : decode cL_acts 399 = .ok (.iconst 4, 1) := by decide +kernel
theorem dL_acts_400 : decode cL_acts 400 = .ok (.idiv, 1) := by decide +kernel
theorem dL_acts_401 : decode cL_acts 401 = .ok (.bipush 10, 2) := by decide +kernel
theorem dL_acts_403 : decode cL_acts 403 = .ok (.irem, 1) := by decide +kernel
theorem dL_acts_404 : decode cL_acts 404 = .ok (.invokevirtual 65, 3) := by decide +kernel
theorem dL_acts_407 : decode cL_acts 407 = .ok (.ireturn, 1) := by decide +kernel
theorem dL_acts_408 : decode cL_acts 408 = .ok (.aload_n 0, 1) := by decide +kernel
theorem dL_acts_409 : decode cL_acts 409 = .ok (.iconst 1, 1) := by decide +kernel
theorem dL_acts_410 : decode cL_acts 410 = .ok (.iload_n 2, 1) := by decide +kernel
theorem dL_acts_411 : decode cL_acts 411 = .ok (.iload_n 2, 1) := by decide +kernel
theorem dL_acts_412 : decode cL_acts 412 = .ok (.iconst 5, 1) := by decide +kernel
theorem dL_acts_413 : decode cL_acts 413 = .ok (.irem, 1) := by decide +kernel
theorem dL_acts_414 : decode cL_acts 414 = .ok (.ifCond .ne 8, 3) := by decide +kernel
theorem dL_acts_417 : decode cL_acts 417 = .ok (.bipush 60, 2) := by decide +kernel
theorem dL_acts_419 : decode cL_acts 419 = .ok (.goto 5, 3) := by decide +kernel
theorem dL_acts_422 : decode cL_acts 422 = .ok (.bipush 6, 2) := by decide +kernel
theorem dL_acts_424 : decode cL_acts 424 = .ok (.irem, 1) := by decide +kernel
theorem dL_acts_425 : decode cL_acts 425 = .ok (.iadd, 1) := by decide +kernel
theorem dL_acts_426 : decode cL_acts 426 = .ok (.invokevirtual 68, 3) := by decide +kernel
theorem dL_acts_429 : decode cL_acts 429 = .ok (.ireturn, 1) := by decide +kernel
set_option maxRecDepth 20000 in
theorem ggL_hangs_X6_cycle : GoodIn wsL_hangs wsX6_cycle := goodIn_r _ [7, 8, 248, 249, 250, 251, 252, 253, 254, 255, 256, 257, 258, 259, 260] (by decide +kernel) (by decide +kernel)
set_option maxRecDepth 20000 in
theorem gL_hangs_X6_cycle : GoodIn wsL_hangs (wsV RL 71 RX6 yX6_cycle wsX6_cycle) := goodIn_app (goodIn_of _ (by decide +kernel)) ggL_hangs_X6_cycle
set_option maxRecDepth 20000 in
theorem ggL_hangs_X6_idle : GoodIn wsL_hangs wsX6_idle := goodIn_r _ [12, 8, 248, 249, 250, 251, 252, 253, 254, 255, 256, 257, 258, 259, 260] (by decide +kernel) (by decide +kernel)
set_option maxRecDepth 20000 in
theorem gL_hangs_X6_idle : GoodIn wsL_hangs (wsV RL 74 RX6 yX6_idle wsX6_idle) := goodIn_app (goodIn_of _ (by decide +kernel)) ggL_hangs_X6_idle
set_option maxRecDepth 20000 in
theorem ggL_hangs_X6_setting : GoodIn wsL_hangs wsX6_setting := goodIn_r _ [16, 8, 17, 18, 19, 6, 20, 21, 22, 23, 248, 249, 250, 251, 252, 253, 254, 255, 256, 257, 258, 259, 260] (by decide +kernel) (by decide +kernel)
set_option maxRecDepth 20000 in
theorem gL_hangs_X6_setting : GoodIn wsL_hangs (wsV RL 77 RX6 yX6_setting wsX6_setting) := goodIn_app (goodIn_of _ (by decide +kernel)) ggL_hangs_X6_setting
