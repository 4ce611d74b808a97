theorem d_law_355 : decode code 355 = .ok (.iload 5, 2) := by decide +kernel
theorem d_law_357 : decode code 357 = .ok (.ifCond .ne 15, 3) := by decide +kernel
theorem d_law_360 : decode code 360 = .ok (.aload_n 3, 1) := by decide +kernel
theorem d_law_361 : decode code 361 = .ok (.iconst 0, 1) := by decide +kernel
theorem d_law_362 : decode code 362 = .ok (.laload, 1) := by decide +kernel
theorem d_law_363 : decode code 363 = .ok (.iload 6, 2) := by decide +kernel
theorem d_law_365 : decode code 365 = .ok (.i2l, 1) := by decide +kernel
theorem d_law_366 : decode code 366 = .ok (.lcmp, 1) := by decide +kernel
theorem d_law_367 : decode code 367 = .ok (.ifCond .eq 5, 3) := by decide +kernel
theorem d_law_370 : decode code 370 = .ok (.iconst 0, 1) := by decide +kernel
theorem d_law_371 : decode code 371 = .ok (.ireturn, 1) := by decide +kernel
theorem d_law_372 : decode code 372 = .ok (.goto 385, 3) := by decide +kernel
theorem d_law_375 : decode code 375 = .ok (.aload_n 1, 1) := by decide +kernel
theorem d_law_376 : decode code 376 = .ok (.aload_n 0, 1) := by decide +kernel
theorem d_law_377 : decode code 377 = .ok (.iload 4, 2) := by decide +kernel
theorem d_law_379 : decode code 379 = .ok (.iconst 1, 1) := by decide +kernel
theorem d_law_380 : decode code 380 = .ok (.iadd, 1) := by decide +kernel
theorem d_law_381 : decode code 381 = .ok (.iaload, 1) := by decide +kernel
theorem d_law_382 : decode code 382 = .ok (.aload_n 0, 1) := by decide +kernel
theorem d_law_383 : decode code 383 = .ok (.iload 4, 2) := by decide +kernel
theorem d_law_385 : decode code 385 = .ok (.iconst 2, 1) := by decide +kernel
theorem d_law_386 : decode code 386 = .ok (.iadd, 1) := by decide +kernel
theorem d_law_387 : decode code 387 = .ok (.iaload, 1) := by decide +kernel
theorem d_law_388 : decode code 388 = .ok (.aload_n 0, 1) := by decide +kernel
theorem d_law_389 : decode code 389 = .ok (.iload 4, 2) := by decide +kernel
theorem d_law_391 : decode code 391 = .ok (.iconst 3, 1) := by decide +kernel
theorem d_law_392 : decode code 392 = .ok (.iadd, 1) := by decide +kernel
theorem d_law_393 : decode code 393 = .ok (.iaload, 1) := by decide +kernel
theorem d_law_394 : decode code 394 = .ok (.invokestatic 74, 3) := by decide +kernel
theorem d_law_397 : decode code 397 = .ok (.istore 5, 2) := by decide +kernel
theorem d_law_399 : decode code 399 = .ok (.aload_n 2, 1) := by decide +kernel
theorem d_law_400 : decode code 400 = .ok (.aload_n 0, 1) := by decide +kernel
theorem d_law_401 : decode code 401 = .ok (.iload 4, 2) := by decide +kernel
theorem d_law_403 : decode code 403 = .ok (.iconst 1, 1) := by decide +kernel
theorem d_law_404 : decode code 404 = .ok (.iadd, 1) := by decide +kernel
theorem d_law_405 : decode code 405 = .ok (.iaload, 1) := by decide +kernel
theorem d_law_406 : decode code 406 = .ok (.aload_n 0, 1) := by decide +kernel
theorem d_law_407 : decode code 407 = .ok (.iload 4, 2) := by decide +kernel
theorem d_law_409 : decode code 409 = .ok (.iconst 2, 1) := by decide +kernel
theorem d_law_410 : decode code 410 = .ok (.iadd, 1) := by decide +kernel
theorem d_law_411 : decode code 411 = .ok (.iaload, 1) := by decide +kernel
theorem d_law_412 : decode code 412 = .ok (.aload_n 0, 1) := by decide +kernel
theorem d_law_413 : decode code 413 = .ok (.iload 4, 2) := by decide +kernel
theorem d_law_415 : decode code 415 = .ok (.iconst 3, 1) := by decide +kernel
theorem d_law_416 : decode code 416 = .ok (.iadd, 1) := by decide +kernel
theorem d_law_417 : decode code 417 = .ok (.iaload, 1) := by decide +kernel
theorem d_law_418 : decode code 418 = .ok (.invokevirtual 76, 3) := by decide +kernel
theorem d_law_421 : decode code 421 = .ok (.aload_n 2, 1) := by decide +kernel
theorem d_law_422 : decode code 422 = .ok (.invokevirtual 60, 3) := by decide +kernel
theorem d_law_425 : decode code 425 = .ok (.iload 5, 2) := by decide +kernel
theorem d_law_427 : decode code 427 = .ok (.if_icmp .eq 5, 3) := by decide +kernel
theorem d_law_430 : decode code 430 = .ok (.iconst 0, 1) := by decide +kernel
theorem d_law_431 : decode code 431 = .ok (.ireturn, 1) := by decide +kernel
theorem d_law_432 : decode code 432 = .ok (.goto 325, 3) := by decide +kernel
theorem d_law_435 : decode code 435 = .ok (.aload_n 1, 1) := by decide +kernel
theorem d_law_436 : decode code 436 = .ok (.invokevirtual 77, 3) := by decide +kernel
theorem d_law_439 : decode code 439 = .ok (.aload_n 2, 1) := by decide +kernel
theorem d_law_440 : decode code 440 = .ok (.invokevirtual 80, 3) := by decide +kernel
theorem d_law_443 : decode code 443 = .ok (.if_icmp .eq 314, 3) := by decide +kernel
theorem d_law_446 : decode code 446 = .ok (.iconst 0, 1) := by decide +kernel
theorem d_law_447 : decode code 447 = .ok (.ireturn, 1) := by decide +kernel
theorem d_law_448 : decode code 448 = .ok (.aload_n 1, 1) := by decide +kernel
theorem d_law_449 : decode code 449 = .ok (.aload_n 0, 1) := by decide +kernel
theorem d_law_450 : decode code 450 = .ok (.iload 4, 2) := by decide +kernel
theorem d_law_452 : decode code 452 = .ok (.iconst 1, 1) := by decide +kernel
