theorem dL_law_357 : decode bL_law 357 = .ok (.aload_n 0, 1) := by decide +kernel
theorem dL_law_358 : decode bL_law 358 = .ok (.iload 4, 2) := by decide +kernel
theorem dL_law_360 : decode bL_law 360 = .ok (.iconst 1, 1) := by decide +kernel
theorem dL_law_361 : decode bL_law 361 = .ok (.iadd, 1) := by decide +kernel
theorem dL_law_362 : decode bL_law 362 = .ok (.iaload, 1) := by decide +kernel
theorem dL_law_363 : decode bL_law 363 = .ok (.aload_n 0, 1) := by decide +kernel
theorem dL_law_364 : decode bL_law 364 = .ok (.iload 4, 2) := by decide +kernel
theorem dL_law_366 : decode bL_law 366 = .ok (.iconst 2, 1) := by decide +kernel
theorem dL_law_367 : decode bL_law 367 = .ok (.iadd, 1) := by decide +kernel
theorem dL_law_368 : decode bL_law 368 = .ok (.iaload, 1) := by decide +kernel
theorem dL_law_369 : decode bL_law 369 = .ok (.invokevirtual 96, 3) := by decide +kernel
theorem dL_law_372 : decode bL_law 372 = .ok (.istore 6, 2) := by decide +kernel
theorem dL_law_374 : decode bL_law 374 = .ok (.aload_n 2, 1) := by decide +kernel
theorem dL_law_375 : decode bL_law 375 = .ok (.invokevirtual 84, 3) := by decide +kernel
theorem dL_law_378 : decode bL_law 378 = .ok (.iload 5, 2) := by decide +kernel
theorem dL_law_380 : decode bL_law 380 = .ok (.if_icmp .eq 5, 3) := by decide +kernel
theorem dL_law_385 : decode bL_law 385 = .ok (.iload 5, 2) := by decide +kernel
theorem dL_law_387 : decode bL_law 387 = .ok (.ifCond .ne 15, 3) := by decide +kernel
theorem dL_law_402 : decode bL_law 402 = .ok (.goto 863, 3) := by decide +kernel
theorem dL_law_405 : decode bL_law 405 = .ok (.aload_n 1, 1) := by decide +kernel
theorem dL_law_406 : decode bL_law 406 = .ok (.aload_n 0, 1) := by decide +kernel
theorem dL_law_407 : decode bL_law 407 = .ok (.iload 4, 2) := by decide +kernel
theorem dL_law_409 : decode bL_law 409 = .ok (.iconst 1, 1) := by decide +kernel
theorem dL_law_410 : decode bL_law 410 = .ok (.iadd, 1) := by decide +kernel
theorem dL_law_411 : decode bL_law 411 = .ok (.iaload, 1) := by decide +kernel
theorem dL_law_412 : decode bL_law 412 = .ok (.aload_n 0, 1) := by decide +kernel
theorem dL_law_413 : decode bL_law 413 = .ok (.iload 4, 2) := by decide +kernel
theorem dL_law_415 : decode bL_law 415 = .ok (.iconst 2, 1) := by decide +kernel
theorem dL_law_416 : decode bL_law 416 = .ok (.iadd, 1) := by decide +kernel
theorem dL_law_417 : decode bL_law 417 = .ok (.iaload, 1) := by decide +kernel
theorem dL_law_418 : decode bL_law 418 = .ok (.aload_n 3, 1) := by decide +kernel
theorem dL_law_419 : decode bL_law 419 = .ok (.invokestatic 97, 3) := by decide +kernel
theorem dL_law_422 : decode bL_law 422 = .ok (.istore 5, 2) := by decide +kernel
theorem dL_law_424 : decode bL_law 424 = .ok (.aload_n 2, 1) := by decide +kernel
theorem dL_law_425 : decode bL_law 425 = .ok (.aload_n 0, 1) := by decide +kernel
theorem dL_law_426 : decode bL_law 426 = .ok (.iload 4, 2) := by decide +kernel
theorem dL_law_428 : decode bL_law 428 = .ok (.iconst 1, 1) := by decide +kernel
theorem dL_law_429 : decode bL_law 429 = .ok (.iadd, 1) := by decide +kernel
theorem dL_law_430 : decode bL_law 430 = .ok (.iaload, 1) := by decide +kernel
theorem dL_law_431 : decode bL_law 431 = .ok (.aload_n 0, 1) := by decide +kernel
theorem dL_law_432 : decode bL_law 432 = .ok (.iload 4, 2) := by decide +kernel
theorem dL_law_434 : decode bL_law 434 = .ok (.iconst 2, 1) := by decide +kernel
theorem dL_law_435 : decode bL_law 435 = .ok (.iadd, 1) := by decide +kernel
theorem dL_law_436 : decode bL_law 436 = .ok (.iaload, 1) := by decide +kernel
theorem dL_law_437 : decode bL_law 437 = .ok (.invokevirtual 99, 3) := by decide +kernel
theorem dL_law_440 : decode bL_law 440 = .ok (.istore 6, 2) := by decide +kernel
theorem dL_law_442 : decode bL_law 442 = .ok (.aload_n 2, 1) := by decide +kernel
theorem dL_law_443 : decode bL_law 443 = .ok (.invokevirtual 84, 3) := by decide +kernel
theorem dL_law_446 : decode bL_law 446 = .ok (.iload 5, 2) := by decide +kernel
theorem dL_law_448 : decode bL_law 448 = .ok (.if_icmp .eq 5, 3) := by decide +kernel
theorem dL_law_453 : decode bL_law 453 = .ok (.iload 5, 2) := by decide +kernel
theorem dL_law_455 : decode bL_law 455 = .ok (.ifCond .ne 15, 3) := by decide +kernel
theorem dL_law_470 : decode bL_law 470 = .ok (.goto 795, 3) := by decide +kernel
theorem dL_law_473 : decode bL_law 473 = .ok (.aload_n 1, 1) := by decide +kernel
theorem dL_law_474 : decode bL_law 474 = .ok (.aload_n 0, 1) := by decide +kernel
theorem dL_law_475 : decode bL_law 475 = .ok (.iload 4, 2) := by decide +kernel
theorem dL_law_477 : decode bL_law 477 = .ok (.iconst 1, 1) := by decide +kernel
theorem dL_law_478 : decode bL_law 478 = .ok (.iadd, 1) := by decide +kernel
theorem dL_law_479 : decode bL_law 479 = .ok (.iaload, 1) := by decide +kernel
theorem dL_law_480 : decode bL_law 480 = .ok (.aload_n 0, 1) := by decide +kernel
theorem dL_law_481 : decode bL_law 481 = .ok (.iload 4, 2) := by decide +kernel
theorem dL_law_483 : decode bL_law 483 = .ok (.iconst 2, 1) := by decide +kernel
theorem dL_law_484 : decode bL_law 484 = .ok (.iadd, 1) := by decide +kernel
theorem dL_law_485 : decode bL_law 485 = .ok (.iaload, 1) := by decide +kernel
theorem dL_law_486 : decode bL_law 486 = .ok (.aload_n 3, 1) := by decide +kernel
theorem dL_law_487 : decode bL_law 487 = .ok (.invokestatic 100, 3) := by decide +kernel
theorem dL_law_490 : decode bL_law 490 = .ok (.istore 5, 2) := by decide +kernel
theorem dL_law_492 : decode bL_law 492 = .ok (.aload_n 2, 1) := by decide +kernel
theorem dL_law_493 : decode bL_law 493 = .ok (.aload_n 0, 1) := by decide +kernel
theorem dL_law_494 : decode bL_law 494 = .ok (.iload 4, 2) := by decide +kernel
theorem dL_law_496 : decode bL_law 496 = .ok (.iconst 1, 1) := by decide +kernel
theorem dL_law_497 : decode bL_law 497 = .ok (.iadd, 1) := by decide +kernel
theorem dL_law_498 : decode bL_law 498 = .ok (.iaload, 1) := by decide +kernel
theorem dL_law_499 : decode bL_law 499 = .ok (.aload_n 0, 1) := by decide +kernel
theorem dL_law_500 : decode bL_law 500 = .ok (.iload 4, 2) := by decide +kernel
theorem dL_law_502 : decode bL_law 502 = .ok (.iconst 2, 1) := by decide +kernel
theorem dL_law_503 : decode bL_law 503 = .ok (.iadd, 1) := by decide +kernel
theorem dL_law_504 : decode bL_law 504 = .ok (.iaload, 1) := by decide +kernel
theorem dL_law_505 : decode bL_law 505 = .ok (.invokevirtual 102, 3) := by decide +kernel
theorem dL_law_508 : decode bL_law 508 = .ok (.istore 6, 2) := by decide +kernel
theorem dL_law_510 : decode bL_law 510 = .ok (.aload_n 2, 1) := by decide +kernel
theorem dL_law_511 : decode bL_law 511 = .ok (.invokevirtual 84, 3) := by decide +kernel
theorem dL_law_514 : decode bL_law 514 = .ok (.iload 5, 2) := by decide +kernel
theorem dL_law_516 : decode bL_law 516 = .ok (.if_icmp .eq 5, 3) := by decide +kernel
theorem dL_law_521 : decode bL_law 521 = .ok (.iload 5, 2) := by decide +kernel
theorem dL_law_523 : decode bL_law 523 = .ok (.ifCond .ne 15, 3) := by decide +kernel
theorem dL_law_538 : decode bL_law 538 = .ok (.goto 727, 3) := by decide +kernel
theorem dL_law_541 : decode bL_law 541 = .ok (.aload_n 1, 1) := by decide +kernel
theorem dL_law_542 : decode bL_law 542 = .ok (.aload_n 0, 1) := by decide +kernel
theorem dL_law_543 : decode bL_law 543 = .ok (.iload 4, 2) := by decide +kernel
theorem dL_law_545 : decode bL_law 545 = .ok (.iconst 1, 1) := by decide +kernel
theorem dL_law_546 : decode bL_law 546 = .ok (.iadd, 1) := by decide +kernel
theorem dL_law_547 : decode bL_law 547 = .ok (.iaload, 1) := by decide +kernel
theorem dL_law_548 : decode bL_law 548 = .ok (.aload_n 0, 1) := by decide +kernel
theorem dL_law_549 : decode bL_law 549 = .ok (.iload 4, 2) := by decide +kernel
theorem dL_law_551 : decode bL_law 551 = .ok (.iconst 2, 1) := by decide +kernel
theorem dL_law_552 : decode bL_law 552 = .ok (.iadd, 1) := by decide +kernel
theorem dL_law_553 : decode bL_law 553 = .ok (.iaload, 1) := by decide +kernel
theorem dL_law_554 : decode bL_law 554 = .ok (.aload_n 3, 1) := by decide +kernel
theorem dL_law_555 : decode bL_law 555 = .ok (.invokestatic 103, 3) := by decide +kernel
theorem dL_law_558 : decode bL_law 558 = .ok (.istore 5, 2) := by decide +kernel
theorem dL_law_560 : decode bL_law 560 = .ok (.aload_n 2, 1) := by decide +kernel
theorem dL_law_561 : decode bL_law 561 = .ok (.aload_n 0, 1) := by decide +kernel
theorem dL_law_562 : decode bL_law 562 = .ok (.iload 4, 2) := by decide +kernel
theorem dL_law_564 : decode bL_law 564 = .ok (.iconst 1, 1) := by decide +kernel
theorem dL_law_565 : decode bL_law 565 = .ok (.iadd, 1) := by decide +kernel
theorem dL_law_566 : decode bL_law 566 = .ok (.iaload, 1) := by decide +kernel
theorem dL_law_567 : decode bL_law 567 = .ok (.aload_n 0, 1) := by decide +kernel
theorem dL_law_568 : decode bL_law 568 = .ok (.iload 4, 2) := by decide +kernel
theorem dL_law_570 : decode bL_law 570 = .ok (.iconst 2, 1) := by decide +kernel
theorem dL_law_571 : decode bL_law 571 = .ok (.iadd, 1) := by decide +kernel
theorem dL_law_572 : decode bL_law 572 = .ok (.iaload, 1) := by decide +kernel
theorem dL_law_573 : decode bL_law 573 = .ok (.invokevirtual 105, 3) := by decide +kernel
theorem dL_law_576 : decode bL_law 576 = .ok (.istore 6, 2) := by decide +kernel
theorem dL_law_578 : decode bL_law 578 = .ok (.aload_n 2, 1) := by decide +kernel
theorem dL_law_579 : decode bL_law 579 = .ok (.invokevirtual 84, 3) := by decide +kernel
theorem dL_law_582 : decode bL_law 582 = .ok (.iload 5, 2) := by decide +kernel
theorem dL_law_584 : decode bL_law 584 = .ok (.if_icmp .eq 5, 3) := by decide +kernel
theorem dL_law_589 : decode bL_law 589 = .ok (.iload 5, 2) := by decide +kernel
theorem dL_law_591 : decode bL_law 591 = .ok (.ifCond .ne 15, 3) := by decide +kernel
