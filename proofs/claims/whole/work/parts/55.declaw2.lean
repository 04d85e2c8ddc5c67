theorem d_law_331 : decode code 331 = .ok (.invokestatic 85, 3) := by decide +kernel
theorem d_law_334 : decode code 334 = .ok (.istore 5, 2) := by decide +kernel
theorem d_law_336 : decode code 336 = .ok (.aload_n 2, 1) := by decide +kernel
theorem d_law_337 : decode code 337 = .ok (.invokevirtual 88, 3) := by decide +kernel
theorem d_law_340 : decode code 340 = .ok (.istore 6, 2) := by decide +kernel
theorem d_law_342 : decode code 342 = .ok (.aload_n 2, 1) := by decide +kernel
theorem d_law_343 : decode code 343 = .ok (.invokevirtual 78, 3) := by decide +kernel
theorem d_law_346 : decode code 346 = .ok (.iload 5, 2) := by decide +kernel
theorem d_law_348 : decode code 348 = .ok (.if_icmp .eq 5, 3) := by decide +kernel
theorem d_law_351 : decode code 351 = .ok (.iconst 0, 1) := by decide +kernel
theorem d_law_352 : decode code 352 = .ok (.ireturn, 1) := by decide +kernel
theorem d_law_353 : decode code 353 = .ok (.iload 5, 2) := by decide +kernel
theorem d_law_355 : decode code 355 = .ok (.ifCond .ne 15, 3) := by decide +kernel
theorem d_law_358 : decode code 358 = .ok (.aload_n 3, 1) := by decide +kernel
theorem d_law_359 : decode code 359 = .ok (.iconst 0, 1) := by decide +kernel
theorem d_law_360 : decode code 360 = .ok (.laload, 1) := by decide +kernel
theorem d_law_361 : decode code 361 = .ok (.iload 6, 2) := by decide +kernel
theorem d_law_363 : decode code 363 = .ok (.i2l, 1) := by decide +kernel
theorem d_law_364 : decode code 364 = .ok (.lcmp, 1) := by decide +kernel
theorem d_law_365 : decode code 365 = .ok (.ifCond .eq 5, 3) := by decide +kernel
theorem d_law_368 : decode code 368 = .ok (.iconst 0, 1) := by decide +kernel
theorem d_law_369 : decode code 369 = .ok (.ireturn, 1) := by decide +kernel
theorem d_law_370 : decode code 370 = .ok (.goto 688, 3) := by decide +kernel
theorem d_law_373 : decode code 373 = .ok (.aload_n 1, 1) := by decide +kernel
theorem d_law_374 : decode code 374 = .ok (.aload_n 0, 1) := by decide +kernel
theorem d_law_375 : decode code 375 = .ok (.iload 4, 2) := by decide +kernel
theorem d_law_377 : decode code 377 = .ok (.iconst 1, 1) := by decide +kernel
theorem d_law_378 : decode code 378 = .ok (.iadd, 1) := by decide +kernel
theorem d_law_379 : decode code 379 = .ok (.iaload, 1) := by decide +kernel
theorem d_law_380 : decode code 380 = .ok (.aload_n 0, 1) := by decide +kernel
theorem d_law_381 : decode code 381 = .ok (.iload 4, 2) := by decide +kernel
theorem d_law_383 : decode code 383 = .ok (.iconst 2, 1) := by decide +kernel
theorem d_law_384 : decode code 384 = .ok (.iadd, 1) := by decide +kernel
theorem d_law_385 : decode code 385 = .ok (.iaload, 1) := by decide +kernel
theorem d_law_386 : decode code 386 = .ok (.aload_n 0, 1) := by decide +kernel
theorem d_law_387 : decode code 387 = .ok (.iload 4, 2) := by decide +kernel
theorem d_law_389 : decode code 389 = .ok (.iconst 3, 1) := by decide +kernel
theorem d_law_390 : decode code 390 = .ok (.iadd, 1) := by decide +kernel
theorem d_law_391 : decode code 391 = .ok (.iaload, 1) := by decide +kernel
theorem d_law_392 : decode code 392 = .ok (.invokestatic 89, 3) := by decide +kernel
theorem d_law_395 : decode code 395 = .ok (.istore 5, 2) := by decide +kernel
theorem d_law_397 : decode code 397 = .ok (.aload_n 2, 1) := by decide +kernel
theorem d_law_398 : decode code 398 = .ok (.aload_n 0, 1) := by decide +kernel
theorem d_law_399 : decode code 399 = .ok (.iload 4, 2) := by decide +kernel
theorem d_law_401 : decode code 401 = .ok (.iconst 1, 1) := by decide +kernel
theorem d_law_402 : decode code 402 = .ok (.iadd, 1) := by decide +kernel
theorem d_law_403 : decode code 403 = .ok (.iaload, 1) := by decide +kernel
theorem d_law_404 : decode code 404 = .ok (.aload_n 0, 1) := by decide +kernel
theorem d_law_405 : decode code 405 = .ok (.iload 4, 2) := by decide +kernel
theorem d_law_407 : decode code 407 = .ok (.iconst 2, 1) := by decide +kernel
theorem d_law_408 : decode code 408 = .ok (.iadd, 1) := by decide +kernel
theorem d_law_409 : decode code 409 = .ok (.iaload, 1) := by decide +kernel
theorem d_law_410 : decode code 410 = .ok (.aload_n 0, 1) := by decide +kernel
theorem d_law_411 : decode code 411 = .ok (.iload 4, 2) := by decide +kernel
theorem d_law_413 : decode code 413 = .ok (.iconst 3, 1) := by decide +kernel
theorem d_law_414 : decode code 414 = .ok (.iadd, 1) := by decide +kernel
theorem d_law_415 : decode code 415 = .ok (.iaload, 1) := by decide +kernel
theorem d_law_416 : decode code 416 = .ok (.invokevirtual 91, 3) := by decide +kernel
theorem d_law_419 : decode code 419 = .ok (.aload_n 2, 1) := by decide +kernel
theorem d_law_420 : decode code 420 = .ok (.invokevirtual 78, 3) := by decide +kernel
theorem d_law_423 : decode code 423 = .ok (.iload 5, 2) := by decide +kernel
theorem d_law_425 : decode code 425 = .ok (.if_icmp .eq 5, 3) := by decide +kernel
theorem d_law_428 : decode code 428 = .ok (.iconst 0, 1) := by decide +kernel
theorem d_law_429 : decode code 429 = .ok (.ireturn, 1) := by decide +kernel
theorem d_law_430 : decode code 430 = .ok (.goto 628, 3) := by decide +kernel
theorem d_law_433 : decode code 433 = .ok (.aload_n 1, 1) := by decide +kernel
theorem d_law_434 : decode code 434 = .ok (.aload_n 0, 1) := by decide +kernel
theorem d_law_435 : decode code 435 = .ok (.iload 4, 2) := by decide +kernel
theorem d_law_437 : decode code 437 = .ok (.iconst 1, 1) := by decide +kernel
theorem d_law_438 : decode code 438 = .ok (.iadd, 1) := by decide +kernel
theorem d_law_439 : decode code 439 = .ok (.iaload, 1) := by decide +kernel
theorem d_law_440 : decode code 440 = .ok (.aload_n 0, 1) := by decide +kernel
theorem d_law_441 : decode code 441 = .ok (.iload 4, 2) := by decide +kernel
theorem d_law_443 : decode code 443 = .ok (.iconst 2, 1) := by decide +kernel
theorem d_law_444 : decode code 444 = .ok (.iadd, 1) := by decide +kernel
theorem d_law_445 : decode code 445 = .ok (.iaload, 1) := by decide +kernel
theorem d_law_446 : decode code 446 = .ok (.invokestatic 92, 3) := by decide +kernel
theorem d_law_449 : decode code 449 = .ok (.istore 5, 2) := by decide +kernel
theorem d_law_451 : decode code 451 = .ok (.aload_n 2, 1) := by decide +kernel
theorem d_law_452 : decode code 452 = .ok (.aload_n 0, 1) := by decide +kernel
theorem d_law_453 : decode code 453 = .ok (.iload 4, 2) := by decide +kernel
theorem d_law_455 : decode code 455 = .ok (.iconst 1, 1) := by decide +kernel
theorem d_law_456 : decode code 456 = .ok (.iadd, 1) := by decide +kernel
theorem d_law_457 : decode code 457 = .ok (.iaload, 1) := by decide +kernel
theorem d_law_458 : decode code 458 = .ok (.aload_n 0, 1) := by decide +kernel
theorem d_law_459 : decode code 459 = .ok (.iload 4, 2) := by decide +kernel
theorem d_law_461 : decode code 461 = .ok (.iconst 2, 1) := by decide +kernel
theorem d_law_462 : decode code 462 = .ok (.iadd, 1) := by decide +kernel
theorem d_law_463 : decode code 463 = .ok (.iaload, 1) := by decide +kernel
theorem d_law_464 : decode code 464 = .ok (.invokevirtual 95, 3) := by decide +kernel
theorem d_law_467 : decode code 467 = .ok (.aload_n 2, 1) := by decide +kernel
theorem d_law_468 : decode code 468 = .ok (.invokevirtual 78, 3) := by decide +kernel
theorem d_law_471 : decode code 471 = .ok (.iload 5, 2) := by decide +kernel
theorem d_law_473 : decode code 473 = .ok (.if_icmp .eq 5, 3) := by decide +kernel
theorem d_law_476 : decode code 476 = .ok (.iconst 0, 1) := by decide +kernel
theorem d_law_477 : decode code 477 = .ok (.ireturn, 1) := by decide +kernel
theorem d_law_478 : decode code 478 = .ok (.goto 580, 3) := by decide +kernel
theorem d_law_481 : decode code 481 = .ok (.aload_n 1, 1) := by decide +kernel
theorem d_law_482 : decode code 482 = .ok (.aload_n 0, 1) := by decide +kernel
theorem d_law_483 : decode code 483 = .ok (.iload 4, 2) := by decide +kernel
theorem d_law_485 : decode code 485 = .ok (.iconst 1, 1) := by decide +kernel
theorem d_law_486 : decode code 486 = .ok (.iadd, 1) := by decide +kernel
theorem d_law_487 : decode code 487 = .ok (.iaload, 1) := by decide +kernel
theorem d_law_488 : decode code 488 = .ok (.aload_n 3, 1) := by decide +kernel
theorem d_law_489 : decode code 489 = .ok (.invokestatic 96, 3) := by decide +kernel
theorem d_law_492 : decode code 492 = .ok (.istore 5, 2) := by decide +kernel
theorem d_law_494 : decode code 494 = .ok (.aload_n 2, 1) := by decide +kernel
theorem d_law_495 : decode code 495 = .ok (.aload_n 0, 1) := by decide +kernel
theorem d_law_496 : decode code 496 = .ok (.iload 4, 2) := by decide +kernel
theorem d_law_498 : decode code 498 = .ok (.iconst 1, 1) := by decide +kernel
theorem d_law_499 : decode code 499 = .ok (.iadd, 1) := by decide +kernel
theorem d_law_500 : decode code 500 = .ok (.iaload, 1) := by decide +kernel
theorem d_law_501 : decode code 501 = .ok (.invokevirtual 99, 3) := by decide +kernel
theorem d_law_504 : decode code 504 = .ok (.istore 6, 2) := by decide +kernel
theorem d_law_506 : decode code 506 = .ok (.aload_n 2, 1) := by decide +kernel
theorem d_law_507 : decode code 507 = .ok (.invokevirtual 78, 3) := by decide +kernel
theorem d_law_510 : decode code 510 = .ok (.iload 5, 2) := by decide +kernel
theorem d_law_512 : decode code 512 = .ok (.if_icmp .eq 5, 3) := by decide +kernel
theorem d_law_515 : decode code 515 = .ok (.iconst 0, 1) := by decide +kernel
theorem d_law_516 : decode code 516 = .ok (.ireturn, 1) := by decide +kernel
theorem d_law_517 : decode code 517 = .ok (.iload 5, 2) := by decide +kernel
theorem d_law_519 : decode code 519 = .ok (.ifCond .ne 22, 3) := by decide +kernel
theorem d_law_522 : decode code 522 = .ok (.aload_n 3, 1) := by decide +kernel
theorem d_law_523 : decode code 523 = .ok (.iconst 0, 1) := by decide +kernel
theorem d_law_524 : decode code 524 = .ok (.laload, 1) := by decide +kernel
theorem d_law_525 : decode code 525 = .ok (.iload 6, 2) := by decide +kernel
theorem d_law_527 : decode code 527 = .ok (.ifCond .eq 7, 3) := by decide +kernel
theorem d_law_530 : decode code 530 = .ok (.lconst 1, 1) := by decide +kernel
theorem d_law_531 : decode code 531 = .ok (.goto 4, 3) := by decide +kernel
theorem d_law_534 : decode code 534 = .ok (.lconst 0, 1) := by decide +kernel
theorem d_law_535 : decode code 535 = .ok (.lcmp, 1) := by decide +kernel
theorem d_law_536 : decode code 536 = .ok (.ifCond .eq 5, 3) := by decide +kernel
theorem d_law_539 : decode code 539 = .ok (.iconst 0, 1) := by decide +kernel
theorem d_law_540 : decode code 540 = .ok (.ireturn, 1) := by decide +kernel
theorem d_law_541 : decode code 541 = .ok (.goto 517, 3) := by decide +kernel
theorem d_law_544 : decode code 544 = .ok (.aload_n 1, 1) := by decide +kernel
theorem d_law_545 : decode code 545 = .ok (.aload_n 0, 1) := by decide +kernel
theorem d_law_546 : decode code 546 = .ok (.iload 4, 2) := by decide +kernel
theorem d_law_548 : decode code 548 = .ok (.iconst 1, 1) := by decide +kernel
theorem d_law_549 : decode code 549 = .ok (.iadd, 1) := by decide +kernel
theorem d_law_550 : decode code 550 = .ok (.iaload, 1) := by decide +kernel
theorem d_law_551 : decode code 551 = .ok (.aload_n 3, 1) := by decide +kernel
theorem d_law_552 : decode code 552 = .ok (.invokestatic 100, 3) := by decide +kernel
theorem d_law_555 : decode code 555 = .ok (.istore 5, 2) := by decide +kernel
theorem d_law_557 : decode code 557 = .ok (.aload_n 2, 1) := by decide +kernel
theorem d_law_558 : decode code 558 = .ok (.aload_n 0, 1) := by decide +kernel
theorem d_law_559 : decode code 559 = .ok (.iload 4, 2) := by decide +kernel
theorem d_law_561 : decode code 561 = .ok (.iconst 1, 1) := by decide +kernel
theorem d_law_562 : decode code 562 = .ok (.iadd, 1) := by decide +kernel
theorem d_law_563 : decode code 563 = .ok (.iaload, 1) := by decide +kernel
theorem d_law_564 : decode code 564 = .ok (.invokevirtual 102, 3) := by decide +kernel
theorem d_law_567 : decode code 567 = .ok (.istore 6, 2) := by decide +kernel
theorem d_law_569 : decode code 569 = .ok (.aload_n 2, 1) := by decide +kernel
theorem d_law_570 : decode code 570 = .ok (.invokevirtual 78, 3) := by decide +kernel
theorem d_law_573 : decode code 573 = .ok (.iload 5, 2) := by decide +kernel
theorem d_law_575 : decode code 575 = .ok (.if_icmp .eq 5, 3) := by decide +kernel
theorem d_law_578 : decode code 578 = .ok (.iconst 0, 1) := by decide +kernel
theorem d_law_579 : decode code 579 = .ok (.ireturn, 1) := by decide +kernel
theorem d_law_580 : decode code 580 = .ok (.iload 5, 2) := by decide +kernel
theorem d_law_582 : decode code 582 = .ok (.ifCond .ne 22, 3) := by decide +kernel
