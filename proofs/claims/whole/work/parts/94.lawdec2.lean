theorem d_L_364 : decode code 364 = .ok (.ireturn, 1) := by decide +kernel
theorem d_L_365 : decode code 365 = .ok (.aload_n 1, 1) := by decide +kernel
theorem d_L_366 : decode code 366 = .ok (.aload_n 0, 1) := by decide +kernel
theorem d_L_367 : decode code 367 = .ok (.iload_n 3, 1) := by decide +kernel
theorem d_L_368 : decode code 368 = .ok (.iconst 1, 1) := by decide +kernel
theorem d_L_369 : decode code 369 = .ok (.iadd, 1) := by decide +kernel
theorem d_L_370 : decode code 370 = .ok (.iaload, 1) := by decide +kernel
theorem d_L_371 : decode code 371 = .ok (.invokevirtual 38, 3) := by decide +kernel
theorem d_L_374 : decode code 374 = .ok (.aload_n 2, 1) := by decide +kernel
theorem d_L_375 : decode code 375 = .ok (.aload_n 0, 1) := by decide +kernel
theorem d_L_376 : decode code 376 = .ok (.iload_n 3, 1) := by decide +kernel
theorem d_L_377 : decode code 377 = .ok (.iconst 1, 1) := by decide +kernel
theorem d_L_378 : decode code 378 = .ok (.iadd, 1) := by decide +kernel
theorem d_L_379 : decode code 379 = .ok (.iaload, 1) := by decide +kernel
theorem d_L_380 : decode code 380 = .ok (.invokevirtual 42, 3) := by decide +kernel
theorem d_L_383 : decode code 383 = .ok (.if_icmp .eq 226, 3) := by decide +kernel
theorem d_L_386 : decode code 386 = .ok (.iconst 0, 1) := by decide +kernel
theorem d_L_387 : decode code 387 = .ok (.ireturn, 1) := by decide +kernel
theorem d_L_388 : decode code 388 = .ok (.aload_n 1, 1) := by decide +kernel
theorem d_L_389 : decode code 389 = .ok (.aload_n 0, 1) := by decide +kernel
theorem d_L_390 : decode code 390 = .ok (.iload_n 3, 1) := by decide +kernel
theorem d_L_391 : decode code 391 = .ok (.iconst 1, 1) := by decide +kernel
theorem d_L_392 : decode code 392 = .ok (.iadd, 1) := by decide +kernel
theorem d_L_393 : decode code 393 = .ok (.iaload, 1) := by decide +kernel
theorem d_L_394 : decode code 394 = .ok (.invokevirtual 43, 3) := by decide +kernel
theorem d_L_397 : decode code 397 = .ok (.aload_n 2, 1) := by decide +kernel
theorem d_L_398 : decode code 398 = .ok (.aload_n 0, 1) := by decide +kernel
theorem d_L_399 : decode code 399 = .ok (.iload_n 3, 1) := by decide +kernel
theorem d_L_400 : decode code 400 = .ok (.iconst 1, 1) := by decide +kernel
theorem d_L_401 : decode code 401 = .ok (.iadd, 1) := by decide +kernel
theorem d_L_402 : decode code 402 = .ok (.iaload, 1) := by decide +kernel
theorem d_L_403 : decode code 403 = .ok (.invokevirtual 46, 3) := by decide +kernel
theorem d_L_406 : decode code 406 = .ok (.if_icmp .eq 203, 3) := by decide +kernel
theorem d_L_409 : decode code 409 = .ok (.iconst 0, 1) := by decide +kernel
theorem d_L_410 : decode code 410 = .ok (.ireturn, 1) := by decide +kernel
theorem d_L_411 : decode code 411 = .ok (.aload_n 1, 1) := by decide +kernel
theorem d_L_412 : decode code 412 = .ok (.aload_n 0, 1) := by decide +kernel
theorem d_L_413 : decode code 413 = .ok (.iload_n 3, 1) := by decide +kernel
theorem d_L_414 : decode code 414 = .ok (.iconst 1, 1) := by decide +kernel
theorem d_L_415 : decode code 415 = .ok (.iadd, 1) := by decide +kernel
theorem d_L_416 : decode code 416 = .ok (.iaload, 1) := by decide +kernel
theorem d_L_417 : decode code 417 = .ok (.invokevirtual 47, 3) := by decide +kernel
theorem d_L_420 : decode code 420 = .ok (.aload_n 2, 1) := by decide +kernel
theorem d_L_421 : decode code 421 = .ok (.aload_n 0, 1) := by decide +kernel
theorem d_L_422 : decode code 422 = .ok (.iload_n 3, 1) := by decide +kernel
theorem d_L_423 : decode code 423 = .ok (.iconst 1, 1) := by decide +kernel
theorem d_L_424 : decode code 424 = .ok (.iadd, 1) := by decide +kernel
theorem d_L_425 : decode code 425 = .ok (.iaload, 1) := by decide +kernel
theorem d_L_426 : decode code 426 = .ok (.invokevirtual 50, 3) := by decide +kernel
theorem d_L_429 : decode code 429 = .ok (.if_icmp .eq 180, 3) := by decide +kernel
theorem d_L_432 : decode code 432 = .ok (.iconst 0, 1) := by decide +kernel
theorem d_L_433 : decode code 433 = .ok (.ireturn, 1) := by decide +kernel
theorem d_L_434 : decode code 434 = .ok (.aload_n 1, 1) := by decide +kernel
theorem d_L_435 : decode code 435 = .ok (.aload_n 0, 1) := by decide +kernel
theorem d_L_436 : decode code 436 = .ok (.iload_n 3, 1) := by decide +kernel
theorem d_L_437 : decode code 437 = .ok (.iconst 1, 1) := by decide +kernel
theorem d_L_438 : decode code 438 = .ok (.iadd, 1) := by decide +kernel
theorem d_L_439 : decode code 439 = .ok (.iaload, 1) := by decide +kernel
theorem d_L_440 : decode code 440 = .ok (.invokevirtual 51, 3) := by decide +kernel
theorem d_L_443 : decode code 443 = .ok (.aload_n 2, 1) := by decide +kernel
theorem d_L_444 : decode code 444 = .ok (.aload_n 0, 1) := by decide +kernel
theorem d_L_445 : decode code 445 = .ok (.iload_n 3, 1) := by decide +kernel
theorem d_L_446 : decode code 446 = .ok (.iconst 1, 1) := by decide +kernel
theorem d_L_447 : decode code 447 = .ok (.iadd, 1) := by decide +kernel
theorem d_L_448 : decode code 448 = .ok (.iaload, 1) := by decide +kernel
theorem d_L_449 : decode code 449 = .ok (.invokevirtual 55, 3) := by decide +kernel
theorem d_L_452 : decode code 452 = .ok (.lcmp, 1) := by decide +kernel
theorem d_L_453 : decode code 453 = .ok (.ifCond .eq 156, 3) := by decide +kernel
theorem d_L_456 : decode code 456 = .ok (.iconst 0, 1) := by decide +kernel
theorem d_L_457 : decode code 457 = .ok (.ireturn, 1) := by decide +kernel
theorem d_L_458 : decode code 458 = .ok (.aload_n 1, 1) := by decide +kernel
theorem d_L_459 : decode code 459 = .ok (.aload_n 0, 1) := by decide +kernel
theorem d_L_460 : decode code 460 = .ok (.iload_n 3, 1) := by decide +kernel
theorem d_L_461 : decode code 461 = .ok (.iconst 1, 1) := by decide +kernel
theorem d_L_462 : decode code 462 = .ok (.iadd, 1) := by decide +kernel
theorem d_L_463 : decode code 463 = .ok (.iaload, 1) := by decide +kernel
theorem d_L_464 : decode code 464 = .ok (.invokevirtual 56, 3) := by decide +kernel
theorem d_L_467 : decode code 467 = .ok (.aload_n 2, 1) := by decide +kernel
theorem d_L_468 : decode code 468 = .ok (.aload_n 0, 1) := by decide +kernel
theorem d_L_469 : decode code 469 = .ok (.iload_n 3, 1) := by decide +kernel
theorem d_L_470 : decode code 470 = .ok (.iconst 1, 1) := by decide +kernel
theorem d_L_471 : decode code 471 = .ok (.iadd, 1) := by decide +kernel
theorem d_L_472 : decode code 472 = .ok (.iaload, 1) := by decide +kernel
theorem d_L_473 : decode code 473 = .ok (.invokevirtual 59, 3) := by decide +kernel
theorem d_L_476 : decode code 476 = .ok (.if_icmp .eq 133, 3) := by decide +kernel
theorem d_L_479 : decode code 479 = .ok (.iconst 0, 1) := by decide +kernel
theorem d_L_480 : decode code 480 = .ok (.ireturn, 1) := by decide +kernel
theorem d_L_481 : decode code 481 = .ok (.aload_n 1, 1) := by decide +kernel
theorem d_L_482 : decode code 482 = .ok (.aload_n 0, 1) := by decide +kernel
theorem d_L_483 : decode code 483 = .ok (.iload_n 3, 1) := by decide +kernel
theorem d_L_484 : decode code 484 = .ok (.iconst 1, 1) := by decide +kernel
theorem d_L_485 : decode code 485 = .ok (.iadd, 1) := by decide +kernel
theorem d_L_486 : decode code 486 = .ok (.iaload, 1) := by decide +kernel
theorem d_L_487 : decode code 487 = .ok (.invokevirtual 60, 3) := by decide +kernel
theorem d_L_490 : decode code 490 = .ok (.aload_n 2, 1) := by decide +kernel
theorem d_L_491 : decode code 491 = .ok (.aload_n 0, 1) := by decide +kernel
theorem d_L_492 : decode code 492 = .ok (.iload_n 3, 1) := by decide +kernel
theorem d_L_493 : decode code 493 = .ok (.iconst 1, 1) := by decide +kernel
theorem d_L_494 : decode code 494 = .ok (.iadd, 1) := by decide +kernel
theorem d_L_495 : decode code 495 = .ok (.iaload, 1) := by decide +kernel
theorem d_L_496 : decode code 496 = .ok (.invokevirtual 63, 3) := by decide +kernel
theorem d_L_499 : decode code 499 = .ok (.if_icmp .eq 110, 3) := by decide +kernel
theorem d_L_502 : decode code 502 = .ok (.iconst 0, 1) := by decide +kernel
theorem d_L_503 : decode code 503 = .ok (.ireturn, 1) := by decide +kernel
theorem d_L_504 : decode code 504 = .ok (.aload_n 1, 1) := by decide +kernel
theorem d_L_505 : decode code 505 = .ok (.aload_n 0, 1) := by decide +kernel
theorem d_L_506 : decode code 506 = .ok (.iload_n 3, 1) := by decide +kernel
theorem d_L_507 : decode code 507 = .ok (.iconst 1, 1) := by decide +kernel
theorem d_L_508 : decode code 508 = .ok (.iadd, 1) := by decide +kernel
theorem d_L_509 : decode code 509 = .ok (.iaload, 1) := by decide +kernel
