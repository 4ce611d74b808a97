theorem d_MO_layLine_242 : decode b_MO_layLine 242 = .ok (.iload 9, 2) := by decide +kernel
theorem d_MO_layLine_244 : decode b_MO_layLine 244 = .ok (.if_icmp .ge 7, 3) := by decide +kernel
theorem d_MO_layLine_247 : decode b_MO_layLine 247 = .ok (.iconst 1, 1) := by decide +kernel
theorem d_MO_layLine_248 : decode b_MO_layLine 248 = .ok (.goto 4, 3) := by decide +kernel
theorem d_MO_layLine_251 : decode b_MO_layLine 251 = .ok (.iconst 0, 1) := by decide +kernel
theorem d_MO_layLine_252 : decode b_MO_layLine 252 = .ok (.iadd, 1) := by decide +kernel
theorem d_MO_layLine_253 : decode b_MO_layLine 253 = .ok (.istore 10, 2) := by decide +kernel
theorem d_MO_layLine_255 : decode b_MO_layLine 255 = .ok (.iinc 11 1, 3) := by decide +kernel
theorem d_MO_layLine_258 : decode b_MO_layLine 258 = .ok (.goto (-93), 3) := by decide +kernel
theorem d_MO_layLine_261 : decode b_MO_layLine 261 = .ok (.iload 8, 2) := by decide +kernel
theorem d_MO_layLine_263 : decode b_MO_layLine 263 = .ok (.iconst 3, 1) := by decide +kernel
theorem d_MO_layLine_264 : decode b_MO_layLine 264 = .ok (.if_icmp .ne 27, 3) := by decide +kernel
theorem d_MO_layLine_267 : decode b_MO_layLine 267 = .ok (.iload 10, 2) := by decide +kernel
theorem d_MO_layLine_269 : decode b_MO_layLine 269 = .ok (.ifCond .le 22, 3) := by decide +kernel
theorem d_MO_layLine_272 : decode b_MO_layLine 272 = .ok (.iload 4, 2) := by decide +kernel
theorem d_MO_layLine_274 : decode b_MO_layLine 274 = .ok (.ifCond .ne 17, 3) := by decide +kernel
theorem d_MO_layLine_277 : decode b_MO_layLine 277 = .ok (.aload_n 0, 1) := by decide +kernel
theorem d_MO_layLine_278 : decode b_MO_layLine 278 = .ok (.iload_n 3, 1) := by decide +kernel
theorem d_MO_layLine_279 : decode b_MO_layLine 279 = .ok (.iconst 1, 1) := by decide +kernel
theorem d_MO_layLine_280 : decode b_MO_layLine 280 = .ok (.isub, 1) := by decide +kernel
theorem d_MO_layLine_281 : decode b_MO_layLine 281 = .ok (.invokevirtual 120, 3) := by decide +kernel
theorem d_MO_layLine_284 : decode b_MO_layLine 284 = .ok (.ifCond .ne 7, 3) := by decide +kernel
theorem d_MO_layLine_287 : decode b_MO_layLine 287 = .ok (.iconst 1, 1) := by decide +kernel
theorem d_MO_layLine_288 : decode b_MO_layLine 288 = .ok (.goto 4, 3) := by decide +kernel
theorem d_MO_layLine_291 : decode b_MO_layLine 291 = .ok (.iconst 0, 1) := by decide +kernel
theorem d_MO_layLine_292 : decode b_MO_layLine 292 = .ok (.istore 11, 2) := by decide +kernel
theorem d_MO_layLine_294 : decode b_MO_layLine 294 = .ok (.aload_n 0, 1) := by decide +kernel
theorem d_MO_layLine_295 : decode b_MO_layLine 295 = .ok (.getfield 77, 3) := by decide +kernel
theorem d_MO_layLine_298 : decode b_MO_layLine 298 = .ok (.iload 5, 2) := by decide +kernel
theorem d_MO_layLine_300 : decode b_MO_layLine 300 = .ok (.iload 11, 2) := by decide +kernel
theorem d_MO_layLine_302 : decode b_MO_layLine 302 = .ok (.ifCond .eq 8, 3) := by decide +kernel
theorem d_MO_layLine_305 : decode b_MO_layLine 305 = .ok (.iload 7, 2) := by decide +kernel
theorem d_MO_layLine_307 : decode b_MO_layLine 307 = .ok (.goto 4, 3) := by decide +kernel
theorem d_MO_layLine_310 : decode b_MO_layLine 310 = .ok (.iconst 0, 1) := by decide +kernel
theorem d_MO_layLine_311 : decode b_MO_layLine 311 = .ok (.iastore, 1) := by decide +kernel
theorem d_MO_layLine_312 : decode b_MO_layLine 312 = .ok (.aload_n 0, 1) := by decide +kernel
theorem d_MO_layLine_313 : decode b_MO_layLine 313 = .ok (.getfield 74, 3) := by decide +kernel
theorem d_MO_layLine_316 : decode b_MO_layLine 316 = .ok (.iload 5, 2) := by decide +kernel
theorem d_MO_layLine_318 : decode b_MO_layLine 318 = .ok (.iaload, 1) := by decide +kernel
theorem d_MO_layLine_319 : decode b_MO_layLine 319 = .ok (.istore 12, 2) := by decide +kernel
theorem d_MO_layLine_321 : decode b_MO_layLine 321 = .ok (.iconst 0, 1) := by decide +kernel
theorem d_MO_layLine_322 : decode b_MO_layLine 322 = .ok (.istore 13, 2) := by decide +kernel
theorem d_MO_layLine_324 : decode b_MO_layLine 324 = .ok (.iload 10, 2) := by decide +kernel
theorem d_MO_layLine_326 : decode b_MO_layLine 326 = .ok (.istore 14, 2) := by decide +kernel
theorem d_MO_layLine_328 : decode b_MO_layLine 328 = .ok (.iconst 0, 1) := by decide +kernel
theorem d_MO_layLine_329 : decode b_MO_layLine 329 = .ok (.istore 15, 2) := by decide +kernel
theorem d_MO_layLine_331 : decode b_MO_layLine 331 = .ok (.iload_n 2, 1) := by decide +kernel
theorem d_MO_layLine_332 : decode b_MO_layLine 332 = .ok (.istore 16, 2) := by decide +kernel
theorem d_MO_layLine_334 : decode b_MO_layLine 334 = .ok (.iload 16, 2) := by decide +kernel
theorem d_MO_layLine_336 : decode b_MO_layLine 336 = .ok (.iload 9, 2) := by decide +kernel
theorem d_MO_layLine_338 : decode b_MO_layLine 338 = .ok (.if_icmp .ge 30, 3) := by decide +kernel
theorem d_MO_layLine_341 : decode b_MO_layLine 341 = .ok (.iload 15, 2) := by decide +kernel
theorem d_MO_layLine_343 : decode b_MO_layLine 343 = .ok (.aload_n 0, 1) := by decide +kernel
theorem d_MO_layLine_344 : decode b_MO_layLine 344 = .ok (.getfield 35, 3) := by decide +kernel
theorem d_MO_layLine_347 : decode b_MO_layLine 347 = .ok (.iload 16, 2) := by decide +kernel
theorem d_MO_layLine_349 : decode b_MO_layLine 349 = .ok (.iaload, 1) := by decide +kernel
theorem d_MO_layLine_350 : decode b_MO_layLine 350 = .ok (.iconst 1, 1) := by decide +kernel
theorem d_MO_layLine_351 : decode b_MO_layLine 351 = .ok (.if_icmp .ne 7, 3) := by decide +kernel
theorem d_MO_layLine_354 : decode b_MO_layLine 354 = .ok (.iconst 1, 1) := by decide +kernel
theorem d_MO_layLine_355 : decode b_MO_layLine 355 = .ok (.goto 4, 3) := by decide +kernel
theorem d_MO_layLine_358 : decode b_MO_layLine 358 = .ok (.iconst 0, 1) := by decide +kernel
theorem d_MO_layLine_359 : decode b_MO_layLine 359 = .ok (.iadd, 1) := by decide +kernel
theorem d_MO_layLine_360 : decode b_MO_layLine 360 = .ok (.istore 15, 2) := by decide +kernel
theorem d_MO_layLine_362 : decode b_MO_layLine 362 = .ok (.iinc 16 1, 3) := by decide +kernel
theorem d_MO_layLine_365 : decode b_MO_layLine 365 = .ok (.goto (-31), 3) := by decide +kernel
theorem d_MO_layLine_368 : decode b_MO_layLine 368 = .ok (.iload_n 2, 1) := by decide +kernel
theorem d_MO_layLine_369 : decode b_MO_layLine 369 = .ok (.istore 16, 2) := by decide +kernel
theorem d_MO_layLine_371 : decode b_MO_layLine 371 = .ok (.iload 16, 2) := by decide +kernel
theorem d_MO_layLine_373 : decode b_MO_layLine 373 = .ok (.iload_n 3, 1) := by decide +kernel
theorem d_MO_layLine_374 : decode b_MO_layLine 374 = .ok (.if_icmp .ge 133, 3) := by decide +kernel
theorem d_MO_layLine_377 : decode b_MO_layLine 377 = .ok (.aload_n 0, 1) := by decide +kernel
theorem d_MO_layLine_378 : decode b_MO_layLine 378 = .ok (.getfield 80, 3) := by decide +kernel
theorem d_MO_layLine_381 : decode b_MO_layLine 381 = .ok (.iload 16, 2) := by decide +kernel
theorem d_MO_layLine_383 : decode b_MO_layLine 383 = .ok (.iload 5, 2) := by decide +kernel
theorem d_MO_layLine_385 : decode b_MO_layLine 385 = .ok (.iastore, 1) := by decide +kernel
theorem d_MO_layLine_386 : decode b_MO_layLine 386 = .ok (.aload_n 0, 1) := by decide +kernel
theorem d_MO_layLine_387 : decode b_MO_layLine 387 = .ok (.getfield 83, 3) := by decide +kernel
theorem d_MO_layLine_390 : decode b_MO_layLine 390 = .ok (.iload 16, 2) := by decide +kernel
theorem d_MO_layLine_392 : decode b_MO_layLine 392 = .ok (.aload_n 0, 1) := by decide +kernel
theorem d_MO_layLine_393 : decode b_MO_layLine 393 = .ok (.getfield 44, 3) := by decide +kernel
theorem d_MO_layLine_396 : decode b_MO_layLine 396 = .ok (.iload 16, 2) := by decide +kernel
theorem d_MO_layLine_398 : decode b_MO_layLine 398 = .ok (.iaload, 1) := by decide +kernel
theorem d_MO_layLine_399 : decode b_MO_layLine 399 = .ok (.iload 12, 2) := by decide +kernel
theorem d_MO_layLine_401 : decode b_MO_layLine 401 = .ok (.iadd, 1) := by decide +kernel
theorem d_MO_layLine_402 : decode b_MO_layLine 402 = .ok (.iastore, 1) := by decide +kernel
theorem d_MO_layLine_403 : decode b_MO_layLine 403 = .ok (.aload_n 0, 1) := by decide +kernel
theorem d_MO_layLine_404 : decode b_MO_layLine 404 = .ok (.getfield 86, 3) := by decide +kernel
theorem d_MO_layLine_407 : decode b_MO_layLine 407 = .ok (.iload 16, 2) := by decide +kernel
theorem d_MO_layLine_409 : decode b_MO_layLine 409 = .ok (.aload_n 0, 1) := by decide +kernel
theorem d_MO_layLine_410 : decode b_MO_layLine 410 = .ok (.getfield 47, 3) := by decide +kernel
theorem d_MO_layLine_413 : decode b_MO_layLine 413 = .ok (.iload 16, 2) := by decide +kernel
theorem d_MO_layLine_415 : decode b_MO_layLine 415 = .ok (.iaload, 1) := by decide +kernel
theorem d_MO_layLine_416 : decode b_MO_layLine 416 = .ok (.iastore, 1) := by decide +kernel
theorem d_MO_layLine_417 : decode b_MO_layLine 417 = .ok (.iload 11, 2) := by decide +kernel
theorem d_MO_layLine_419 : decode b_MO_layLine 419 = .ok (.ifCond .eq 82, 3) := by decide +kernel
theorem d_MO_layLine_422 : decode b_MO_layLine 422 = .ok (.aload_n 0, 1) := by decide +kernel
theorem d_MO_layLine_423 : decode b_MO_layLine 423 = .ok (.getfield 35, 3) := by decide +kernel
theorem d_MO_layLine_426 : decode b_MO_layLine 426 = .ok (.iload 16, 2) := by decide +kernel
theorem d_MO_layLine_428 : decode b_MO_layLine 428 = .ok (.iaload, 1) := by decide +kernel
theorem d_MO_layLine_429 : decode b_MO_layLine 429 = .ok (.iconst 1, 1) := by decide +kernel
theorem d_MO_layLine_430 : decode b_MO_layLine 430 = .ok (.if_icmp .ne 71, 3) := by decide +kernel
theorem d_MO_layLine_433 : decode b_MO_layLine 433 = .ok (.iload 16, 2) := by decide +kernel
theorem d_MO_layLine_435 : decode b_MO_layLine 435 = .ok (.iload 9, 2) := by decide +kernel
theorem d_MO_layLine_437 : decode b_MO_layLine 437 = .ok (.if_icmp .lt 6, 3) := by decide +kernel
theorem d_MO_layLine_440 : decode b_MO_layLine 440 = .ok (.goto 61, 3) := by decide +kernel
theorem d_MO_layLine_443 : decode b_MO_layLine 443 = .ok (.iinc 15 (-1), 3) := by decide +kernel
theorem d_MO_layLine_446 : decode b_MO_layLine 446 = .ok (.iload 15, 2) := by decide +kernel
theorem d_MO_layLine_448 : decode b_MO_layLine 448 = .ok (.iload 14, 2) := by decide +kernel
theorem d_MO_layLine_450 : decode b_MO_layLine 450 = .ok (.if_icmp .lt 6, 3) := by decide +kernel
theorem d_MO_layLine_453 : decode b_MO_layLine 453 = .ok (.goto 48, 3) := by decide +kernel
theorem d_MO_layLine_456 : decode b_MO_layLine 456 = .ok (.iload 7, 2) := by decide +kernel
theorem d_MO_layLine_458 : decode b_MO_layLine 458 = .ok (.iload 10, 2) := by decide +kernel
theorem d_MO_layLine_460 : decode b_MO_layLine 460 = .ok (.idiv, 1) := by decide +kernel
theorem d_MO_layLine_461 : decode b_MO_layLine 461 = .ok (.iload 13, 2) := by decide +kernel
theorem d_MO_layLine_463 : decode b_MO_layLine 463 = .ok (.iload 7, 2) := by decide +kernel
theorem d_MO_layLine_465 : decode b_MO_layLine 465 = .ok (.iload 10, 2) := by decide +kernel
theorem d_MO_layLine_467 : decode b_MO_layLine 467 = .ok (.irem, 1) := by decide +kernel
theorem d_MO_layLine_468 : decode b_MO_layLine 468 = .ok (.if_icmp .ge 7, 3) := by decide +kernel
theorem d_MO_layLine_471 : decode b_MO_layLine 471 = .ok (.iconst 1, 1) := by decide +kernel
theorem d_MO_layLine_472 : decode b_MO_layLine 472 = .ok (.goto 4, 3) := by decide +kernel
theorem d_MO_layLine_475 : decode b_MO_layLine 475 = .ok (.iconst 0, 1) := by decide +kernel
theorem d_MO_layLine_476 : decode b_MO_layLine 476 = .ok (.iadd, 1) := by decide +kernel
theorem d_MO_layLine_477 : decode b_MO_layLine 477 = .ok (.istore 17, 2) := by decide +kernel
theorem d_MO_layLine_479 : decode b_MO_layLine 479 = .ok (.iinc 13 1, 3) := by decide +kernel
theorem d_MO_layLine_482 : decode b_MO_layLine 482 = .ok (.aload_n 0, 1) := by decide +kernel
theorem d_MO_layLine_483 : decode b_MO_layLine 483 = .ok (.getfield 86, 3) := by decide +kernel
theorem d_MO_layLine_486 : decode b_MO_layLine 486 = .ok (.iload 16, 2) := by decide +kernel
theorem d_MO_layLine_488 : decode b_MO_layLine 488 = .ok (.dup2, 1) := by decide +kernel
theorem d_MO_layLine_489 : decode b_MO_layLine 489 = .ok (.iaload, 1) := by decide +kernel
theorem d_MO_layLine_490 : decode b_MO_layLine 490 = .ok (.iload 17, 2) := by decide +kernel
theorem d_MO_layLine_492 : decode b_MO_layLine 492 = .ok (.iadd, 1) := by decide +kernel
theorem d_MO_layLine_493 : decode b_MO_layLine 493 = .ok (.iastore, 1) := by decide +kernel
theorem d_MO_layLine_494 : decode b_MO_layLine 494 = .ok (.iload 12, 2) := by decide +kernel
theorem d_MO_layLine_496 : decode b_MO_layLine 496 = .ok (.iload 17, 2) := by decide +kernel
theorem d_MO_layLine_498 : decode b_MO_layLine 498 = .ok (.iadd, 1) := by decide +kernel
theorem d_MO_layLine_499 : decode b_MO_layLine 499 = .ok (.istore 12, 2) := by decide +kernel
theorem d_MO_layLine_501 : decode b_MO_layLine 501 = .ok (.iinc 16 1, 3) := by decide +kernel
theorem d_MO_layLine_504 : decode b_MO_layLine 504 = .ok (.goto (-133), 3) := by decide +kernel
theorem d_MO_layLine_507 : decode b_MO_layLine 507 = .ok (.aload_n 0, 1) := by decide +kernel
theorem d_MO_layLine_508 : decode b_MO_layLine 508 = .ok (.dup, 1) := by decide +kernel
theorem d_MO_layLine_509 : decode b_MO_layLine 509 = .ok (.getfield 151, 3) := by decide +kernel
theorem d_MO_layLine_512 : decode b_MO_layLine 512 = .ok (.iconst 1, 1) := by decide +kernel
theorem d_MO_layLine_513 : decode b_MO_layLine 513 = .ok (.iadd, 1) := by decide +kernel
theorem d_MO_layLine_514 : decode b_MO_layLine 514 = .ok (.putfield 151, 3) := by decide +kernel
theorem d_MO_layLine_517 : decode b_MO_layLine 517 = .ok (.return_, 1) := by decide +kernel
