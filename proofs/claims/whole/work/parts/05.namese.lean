theorem dL_law_419 : decode bL_law 419 = .ok (.invokestatic 97, 3) := by decide +kernel
theorem dL_law_422 : decode bL_law 422 = .ok (.istore 5, 2) := by decide +kernel
theorem dL_law_424 : decode bL_law 424 = .ok (.aload_n 2, 1) := by decide +kernel
theorem dL_law_425 : decode bL_law 425 = .ok (.aload_n 0, 1) := by decide +kernel
theorem dL_law_426 : decode bL_law 426 = .ok (.iload 4, 2) := by decide +kernel
theorem dL_law_428 : decode bL_law 428 = .ok (.iconst 1, 1) := by decide +kernel
theorem dL_law_429 : decode bL_law 429 = .ok (.iadd, 1) := by decide +kernel
theorem dL_law_430 : decode bL_law 430 = .ok (.iaload, 1) := by decide +kernel
theorem dL_law_431 : decode bL_law 431 = .ok (.aload_n 0, 1) := by decide +kernel
theorem dL_law_432 : decode bL_law 432 = .ok (.iload 4, 2) := by decide +kernel
theorem dL_law_434 : decode bL_law 434 = .ok (.iconst 2, 1) := by decide +kernel
theorem dL_law_435 : decode bL_law 435 = .ok (.iadd, 1) := by decide +kernel
theorem dL_law_436 : decode bL_law 436 = .ok (.iaload, 1) := by decide +kernel
theorem dL_law_437 : decode bL_law 437 = .ok (.invokevirtual 99, 3) := by decide +kernel
theorem dL_law_440 : decode bL_law 440 = .ok (.istore 6, 2) := by decide +kernel
theorem dL_law_442 : decode bL_law 442 = .ok (.aload_n 2, 1) := by decide +kernel
theorem dL_law_443 : decode bL_law 443 = .ok (.invokevirtual 84, 3) := by decide +kernel
theorem dL_law_446 : decode bL_law 446 = .ok (.iload 5, 2) := by decide +kernel
theorem dL_law_448 : decode bL_law 448 = .ok (.if_icmp .eq 5, 3) := by decide +kernel
theorem dL_law_453 : decode bL_law 453 = .ok (.iload 5, 2) := by decide +kernel
theorem dL_law_455 : decode bL_law 455 = .ok (.ifCond .ne 15, 3) := by decide +kernel
theorem dL_law_470 : decode bL_law 470 = .ok (.goto 795, 3) := by decide +kernel
theorem dL_law_473 : decode bL_law 473 = .ok (.aload_n 1, 1) := by decide +kernel
theorem dL_law_474 : decode bL_law 474 = .ok (.aload_n 0, 1) := by decide +kernel
theorem dL_law_475 : decode bL_law 475 = .ok (.iload 4, 2) := by decide +kernel
theorem dL_law_477 : decode bL_law 477 = .ok (.iconst 1, 1) := by decide +kernel
theorem dL_law_478 : decode bL_law 478 = .ok (.iadd, 1) := by decide +kernel
theorem dL_law_479 : decode bL_law 479 = .ok (.iaload, 1) := by decide +kernel
theorem dL_law_480 : decode bL_law 480 = .ok (.aload_n 0, 1) := by decide +kernel
theorem dL_law_481 : decode bL_law 481 = .ok (.iload 4, 2) := by decide +kernel
theorem dL_law_483 : decode bL_law 483 = .ok (.iconst 2, 1) := by decide +kernel
theorem dL_law_484 : decode bL_law 484 = .ok (.iadd, 1) := by decide +kernel
theorem dL_law_485 : decode bL_law 485 = .ok (.iaload, 1) := by decide +kernel
theorem dL_law_486 : decode bL_law 486 = .ok (.aload_n 3, 1) := by decide +kernel
theorem dL_law_487 : decode bL_law 487 = .ok (.invokestatic 100, 3) := by decide +kernel
theorem dL_law_490 : decode bL_law 490 = .ok (.istore 5, 2) := by decide +kernel
theorem dL_law_492 : decode bL_law 492 = .ok (.aload_n 2, 1) := by decide +kernel
theorem dL_law_493 : decode bL_law 493 = .ok (.aload_n 0, 1) := by decide +kernel
theorem dL_law_494 : decode bL_law 494 = .ok (.iload 4, 2) := by decide +kernel
theorem dL_law_496 : decode bL_law 496 = .ok (.iconst 1, 1) := by decide +kernel
theorem dL_law_497 : decode bL_law 497 = .ok (.iadd, 1) := by decide +kernel
theorem dL_law_498 : decode bL_law 498 = .ok (.iaload, 1) := by decide +kernel
theorem dL_law_499 : decode bL_law 499 = .ok (.aload_n 0, 1) := by decide +kernel
theorem dL_law_500 : decode bL_law 500 = .ok (.iload 4, 2) := by decide +kernel
theorem dL_law_502 : decode bL_law 502 = .ok (.iconst 2, 1) := by decide +kernel
theorem dL_law_503 : decode bL_law 503 = .ok (.iadd, 1) := by decide +kernel
theorem dL_law_504 : decode bL_law 504 = .ok (.iaload, 1) := by decide +kernel
theorem dL_law_505 : decode bL_law 505 = .ok (.invokevirtual 102, 3) := by decide +kernel
theorem dL_law_508 : decode bL_law 508 = .ok (.istore 6, 2) := by decide +kernel
theorem dL_law_510 : decode bL_law 510 = .ok (.aload_n 2, 1) := by decide +kernel
theorem dL_law_511 : decode bL_law 511 = .ok (.invokevirtual 84, 3) := by decide +kernel
theorem dL_law_514 : decode bL_law 514 = .ok (.iload 5, 2) := by decide +kernel
theorem dL_law_516 : decode bL_law 516 = .ok (.if_icmp .eq 5, 3) := by decide +kernel
theorem dL_law_521 : decode bL_law 521 = .ok (.iload 5, 2) := by decide +kernel
theorem dL_law_523 : decode bL_law 523 = .ok (.ifCond .ne 15, 3) := by decide +kernel
theorem dL_law_538 : decode bL_law 538 = .ok (.goto 727, 3) := by decide +kernel
theorem dL_law_541 : decode bL_law 541 = .ok (.aload_n 1, 1) := by decide +kernel
theorem dL_law_542 : decode bL_law 542 = .ok (.aload_n 0, 1) := by decide +kernel
theorem dL_law_543 : decode bL_law 543 = .ok (.iload 4, 2) := by decide +kernel
theorem dL_law_545 : decode bL_law 545 = .ok (.iconst 1, 1) := by decide +kernel
theorem dL_law_546 : decode bL_law 546 = .ok (.iadd, 1) := by decide +kernel
theorem dL_law_547 : decode bL_law 547 = .ok (.iaload, 1) := by decide +kernel
theorem dL_law_548 : decode bL_law 548 = .ok (.aload_n 0, 1) := by decide +kernel
theorem dL_law_549 : decode bL_law 549 = .ok (.iload 4, 2) := by decide +kernel
theorem dL_law_551 : decode bL_law 551 = .ok (.iconst 2, 1) := by decide +kernel
theorem dL_law_552 : decode bL_law 552 = .ok (.iadd, 1) := by decide +kernel
theorem dL_law_553 : decode bL_law 553 = .ok (.iaload, 1) := by decide +kernel
theorem dL_law_554 : decode bL_law 554 = .ok (.aload_n 3, 1) := by decide +kernel
theorem dL_law_555 : decode bL_law 555 = .ok (.invokestatic 103, 3) := by decide +kernel
theorem dL_law_558 : decode bL_law 558 = .ok (.istore 5, 2) := by decide +kernel
theorem dL_law_560 : decode bL_law 560 = .ok (.aload_n 2, 1) := by decide +kernel
theorem dL_law_561 : decode bL_law 561 = .ok (.aload_n 0, 1) := by decide +kernel
theorem dL_law_562 : decode bL_law 562 = .ok (.iload 4, 2) := by decide +kernel
theorem dL_law_564 : decode bL_law 564 = .ok (.iconst 1, 1) := by decide +kernel
theorem dL_law_565 : decode bL_law 565 = .ok (.iadd, 1) := by decide +kernel
theorem dL_law_566 : decode bL_law 566 = .ok (.iaload, 1) := by decide +kernel
theorem dL_law_567 : decode bL_law 567 = .ok (.aload_n 0, 1) := by decide +kernel
theorem dL_law_568 : decode bL_law 568 = .ok (.iload 4, 2) := by decide +kernel
theorem dL_law_570 : decode bL_law 570 = .ok (.iconst 2, 1) := by decide +kernel
theorem dL_law_571 : decode bL_law 571 = .ok (.iadd, 1) := by decide +kernel
theorem dL_law_572 : decode bL_law 572 = .ok (.iaload, 1) := by decide +kernel
theorem dL_law_573 : decode bL_law 573 = .ok (.invokevirtual 105, 3) := by decide +kernel
theorem dL_law_576 : decode bL_law 576 = .ok (.istore 6, 2) := by decide +kernel
theorem dL_law_578 : decode bL_law 578 = .ok (.aload_n 2, 1) := by decide +kernel
theorem dL_law_579 : decode bL_law 579 = .ok (.invokevirtual 84, 3) := by decide +kernel
theorem dL_law_582 : decode bL_law 582 = .ok (.iload 5, 2) := by decide +kernel
theorem dL_law_584 : decode bL_law 584 = .ok (.if_icmp .eq 5, 3) := by decide +kernel
theorem dL_law_589 : decode bL_law 589 = .ok (.iload 5, 2) := by decide +kernel
theorem dL_law_591 : decode bL_law 591 = .ok (.ifCond .ne 15, 3) := by decide +kernel
theorem dL_law_606 : decode bL_law 606 = .ok (.goto 659, 3) := by decide +kernel
theorem dL_law_609 : decode bL_law 609 = .ok (.aload_n 1, 1) := by decide +kernel
theorem dL_law_610 : decode bL_law 610 = .ok (.aload_n 0, 1) := by decide +kernel
theorem dL_law_611 : decode bL_law 611 = .ok (.iload 4, 2) := by decide +kernel
theorem dL_law_613 : decode bL_law 613 = .ok (.iconst 1, 1) := by decide +kernel
theorem dL_law_614 : decode bL_law 614 = .ok (.iadd, 1) := by decide +kernel
theorem dL_law_615 : decode bL_law 615 = .ok (.iaload, 1) := by decide +kernel
theorem dL_law_616 : decode bL_law 616 = .ok (.aload_n 0, 1) := by decide +kernel
theorem dL_law_617 : decode bL_law 617 = .ok (.iload 4, 2) := by decide +kernel
theorem dL_law_619 : decode bL_law 619 = .ok (.iconst 2, 1) := by decide +kernel
theorem dL_law_620 : decode bL_law 620 = .ok (.iadd, 1) := by decide +kernel
theorem dL_law_621 : decode bL_law 621 = .ok (.iaload, 1) := by decide +kernel
theorem dL_law_622 : decode bL_law 622 = .ok (.aload_n 0, 1) := by decide +kernel
theorem dL_law_623 : decode bL_law 623 = .ok (.iload 4, 2) := by decide +kernel
theorem dL_law_625 : decode bL_law 625 = .ok (.iconst 3, 1) := by decide +kernel
theorem dL_law_626 : decode bL_law 626 = .ok (.iadd, 1) := by decide +kernel
theorem dL_law_627 : decode bL_law 627 = .ok (.iaload, 1) := by decide +kernel
theorem dL_law_628 : decode bL_law 628 = .ok (.aload_n 3, 1) := by decide +kernel
theorem dL_law_629 : decode bL_law 629 = .ok (.invokestatic 106, 3) := by decide +kernel
theorem dL_law_632 : decode bL_law 632 = .ok (.istore 5, 2) := by decide +kernel
theorem dL_law_634 : decode bL_law 634 = .ok (.aload_n 2, 1) := by decide +kernel
theorem dL_law_635 : decode bL_law 635 = .ok (.aload_n 0, 1) := by decide +kernel
theorem dL_law_636 : decode bL_law 636 = .ok (.iload 4, 2) := by decide +kernel
theorem dL_law_638 : decode bL_law 638 = .ok (.iconst 1, 1) := by decide +kernel
theorem dL_law_639 : decode bL_law 639 = .ok (.iadd, 1) := by decide +kernel
theorem dL_law_640 : decode bL_law 640 = .ok (.iaload, 1) := by decide +kernel
theorem dL_law_641 : decode bL_law 641 = .ok (.aload_n 0, 1) := by decide +kernel
theorem dL_law_642 : decode bL_law 642 = .ok (.iload 4, 2) := by decide +kernel
theorem dL_law_644 : decode bL_law 644 = .ok (.iconst 2, 1) := by decide +kernel
theorem dL_law_645 : decode bL_law 645 = .ok (.iadd, 1) := by decide +kernel
theorem dL_law_646 : decode bL_law 646 = .ok (.iaload, 1) := by decide +kernel
