theorem dL_law_395 : decode code 395 = .ok (.istore 8, 2) := by decide +kernel
theorem dL_law_397 : decode code 397 = .ok (.iload 8, 2) := by decide +kernel
theorem dL_law_399 : decode code 399 = .ok (.ifCond .eq 32, 3) := by decide +kernel
theorem dL_law_402 : decode code 402 = .ok (.aload_n 1, 1) := by decide +kernel
theorem dL_law_403 : decode code 403 = .ok (.iconst 1, 1) := by decide +kernel
theorem dL_law_404 : decode code 404 = .ok (.iconst 2, 1) := by decide +kernel
theorem dL_law_405 : decode code 405 = .ok (.iload 5, 2) := by decide +kernel
theorem dL_law_407 : decode code 407 = .ok (.bipush 30, 2) := by decide +kernel
theorem dL_law_409 : decode code 409 = .ok (.iadd, 1) := by decide +kernel
theorem dL_law_410 : decode code 410 = .ok (.iload 7, 2) := by decide +kernel
theorem dL_law_412 : decode code 412 = .ok (.iadd, 1) := by decide +kernel
theorem dL_law_413 : decode code 413 = .ok (.iload 5, 2) := by decide +kernel
theorem dL_law_415 : decode code 415 = .ok (.bipush 31, 2) := by decide +kernel
theorem dL_law_417 : decode code 417 = .ok (.iadd, 1) := by decide +kernel
theorem dL_law_418 : decode code 418 = .ok (.iload 7, 2) := by decide +kernel
theorem dL_law_420 : decode code 420 = .ok (.iadd, 1) := by decide +kernel
theorem dL_law_421 : decode code 421 = .ok (.iconst 4, 1) := by decide +kernel
theorem dL_law_422 : decode code 422 = .ok (.invokevirtual 24, 3) := by decide +kernel
theorem dL_law_425 : decode code 425 = .ok (.iconst 4, 1) := by decide +kernel
theorem dL_law_426 : decode code 426 = .ok (.if_icmp .eq 5, 3) := by decide +kernel
theorem dL_law_429 : decode code 429 = .ok (.iconst 0, 1) := by decide +kernel
theorem dL_law_430 : decode code 430 = .ok (.ireturn, 1) := by decide +kernel
theorem dL_law_431 : decode code 431 = .ok (.iload 7, 2) := by decide +kernel
theorem dL_law_433 : decode code 433 = .ok (.sipush 180, 3) := by decide +kernel
theorem dL_law_436 : decode code 436 = .ok (.if_icmp .le 8, 3) := by decide +kernel
theorem dL_law_439 : decode code 439 = .ok (.bipush (-3), 2) := by decide +kernel
theorem dL_law_441 : decode code 441 = .ok (.goto 14, 3) := by decide +kernel
theorem dL_law_444 : decode code 444 = .ok (.iload 8, 2) := by decide +kernel
theorem dL_law_446 : decode code 446 = .ok (.ifCond .eq 8, 3) := by decide +kernel
theorem dL_law_449 : decode code 449 = .ok (.bipush (-5), 2) := by decide +kernel
theorem dL_law_451 : decode code 451 = .ok (.goto 4, 3) := by decide +kernel
theorem dL_law_454 : decode code 454 = .ok (.iconst 2, 1) := by decide +kernel
theorem dL_law_455 : decode code 455 = .ok (.istore 9, 2) := by decide +kernel
theorem dL_law_457 : decode code 457 = .ok (.iload 6, 2) := by decide +kernel
theorem dL_law_459 : decode code 459 = .ok (.ifCond .eq 11, 3) := by decide +kernel
theorem dL_law_462 : decode code 462 = .ok (.aload_n 1, 1) := by decide +kernel
theorem dL_law_463 : decode code 463 = .ok (.iconst 2, 1) := by decide +kernel
theorem dL_law_464 : decode code 464 = .ok (.invokevirtual 51, 3) := by decide +kernel
theorem dL_law_467 : decode code 467 = .ok (.goto 4, 3) := by decide +kernel
theorem dL_law_470 : decode code 470 = .ok (.iconst 0, 1) := by decide +kernel
theorem dL_law_471 : decode code 471 = .ok (.istore 10, 2) := by decide +kernel
theorem dL_law_473 : decode code 473 = .ok (.iload 6, 2) := by decide +kernel
theorem dL_law_475 : decode code 475 = .ok (.ifCond .eq 12, 3) := by decide +kernel
theorem dL_law_478 : decode code 478 = .ok (.iload 10, 2) := by decide +kernel
theorem dL_law_480 : decode code 480 = .ok (.iload 9, 2) := by decide +kernel
theorem dL_law_482 : decode code 482 = .ok (.if_icmp .eq 5, 3) := by decide +kernel
theorem dL_law_485 : decode code 485 = .ok (.iconst 0, 1) := by decide +kernel
theorem dL_law_486 : decode code 486 = .ok (.ireturn, 1) := by decide +kernel
theorem dL_law_487 : decode code 487 = .ok (.iload 6, 2) := by decide +kernel
theorem dL_law_489 : decode code 489 = .ok (.ifCond .eq 13, 3) := by decide +kernel
theorem dL_law_492 : decode code 492 = .ok (.iload 9, 2) := by decide +kernel
theorem dL_law_494 : decode code 494 = .ok (.iconst 2, 1) := by decide +kernel
theorem dL_law_495 : decode code 495 = .ok (.if_icmp .ne 7, 3) := by decide +kernel
theorem dL_law_498 : decode code 498 = .ok (.iconst 1, 1) := by decide +kernel
theorem dL_law_499 : decode code 499 = .ok (.goto 4, 3) := by decide +kernel
theorem dL_law_502 : decode code 502 = .ok (.iconst 0, 1) := by decide +kernel
theorem dL_law_503 : decode code 503 = .ok (.istore 11, 2) := by decide +kernel
theorem dL_law_505 : decode code 505 = .ok (.aload_n 1, 1) := by decide +kernel
theorem dL_law_506 : decode code 506 = .ok (.iconst 2, 1) := by decide +kernel
theorem dL_law_507 : decode code 507 = .ok (.iconst 5, 1) := by decide +kernel
theorem dL_law_508 : decode code 508 = .ok (.invokevirtual 20, 3) := by decide +kernel
theorem dL_law_511 : decode code 511 = .ok (.iload 11, 2) := by decide +kernel
theorem dL_law_513 : decode code 513 = .ok (.ifCond .eq 7, 3) := by decide +kernel
theorem dL_law_516 : decode code 516 = .ok (.iconst 0, 1) := by decide +kernel
theorem dL_law_517 : decode code 517 = .ok (.goto 4, 3) := by decide +kernel
theorem dL_law_520 : decode code 520 = .ok (.iconst 2, 1) := by decide +kernel
theorem dL_law_521 : decode code 521 = .ok (.if_icmp .ne 68, 3) := by decide +kernel
theorem dL_law_524 : decode code 524 = .ok (.aload_n 1, 1) := by decide +kernel
theorem dL_law_525 : decode code 525 = .ok (.iconst 3, 1) := by decide +kernel
theorem dL_law_526 : decode code 526 = .ok (.iconst 5, 1) := by decide +kernel
theorem dL_law_527 : decode code 527 = .ok (.invokevirtual 20, 3) := by decide +kernel
theorem dL_law_530 : decode code 530 = .ok (.iload 11, 2) := by decide +kernel
theorem dL_law_532 : decode code 532 = .ok (.ifCond .eq 7, 3) := by decide +kernel
theorem dL_law_535 : decode code 535 = .ok (.iconst 0, 1) := by decide +kernel
theorem dL_law_536 : decode code 536 = .ok (.goto 4, 3) := by decide +kernel
theorem dL_law_539 : decode code 539 = .ok (.iconst 4, 1) := by decide +kernel
theorem dL_law_540 : decode code 540 = .ok (.if_icmp .ne 49, 3) := by decide +kernel
theorem dL_law_543 : decode code 543 = .ok (.aload_n 1, 1) := by decide +kernel
theorem dL_law_544 : decode code 544 = .ok (.iconst 2, 1) := by decide +kernel
theorem dL_law_545 : decode code 545 = .ok (.bipush 10, 2) := by decide +kernel
theorem dL_law_547 : decode code 547 = .ok (.invokevirtual 20, 3) := by decide +kernel
theorem dL_law_550 : decode code 550 = .ok (.iload 11, 2) := by decide +kernel
theorem dL_law_552 : decode code 552 = .ok (.ifCond .eq 8, 3) := by decide +kernel
theorem dL_law_555 : decode code 555 = .ok (.bipush (-6), 2) := by decide +kernel
theorem dL_law_557 : decode code 557 = .ok (.goto 5, 3) := by decide +kernel
theorem dL_law_560 : decode code 560 = .ok (.iload 5, 2) := by decide +kernel
theorem dL_law_562 : decode code 562 = .ok (.if_icmp .ne 27, 3) := by decide +kernel
theorem dL_law_565 : decode code 565 = .ok (.aload_n 1, 1) := by decide +kernel
theorem dL_law_566 : decode code 566 = .ok (.iconst 3, 1) := by decide +kernel
theorem dL_law_567 : decode code 567 = .ok (.iconst 4, 1) := by decide +kernel
theorem dL_law_568 : decode code 568 = .ok (.invokevirtual 20, 3) := by decide +kernel
theorem dL_law_571 : decode code 571 = .ok (.iload 11, 2) := by decide +kernel
theorem dL_law_573 : decode code 573 = .ok (.ifCond .eq 8, 3) := by decide +kernel
theorem dL_law_576 : decode code 576 = .ok (.iload 4, 2) := by decide +kernel
theorem dL_law_578 : decode code 578 = .ok (.goto 8, 3) := by decide +kernel
theorem dL_law_581 : decode code 581 = .ok (.iload 5, 2) := by decide +kernel
theorem dL_law_583 : decode code 583 = .ok (.bipush 30, 2) := by decide +kernel
theorem dL_law_585 : decode code 585 = .ok (.iadd, 1) := by decide +kernel
theorem dL_law_586 : decode code 586 = .ok (.if_icmp .eq 5, 3) := by decide +kernel
theorem dL_law_589 : decode code 589 = .ok (.iconst 0, 1) := by decide +kernel
theorem dL_law_590 : decode code 590 = .ok (.ireturn, 1) := by decide +kernel
theorem dL_law_591 : decode code 591 = .ok (.iload 5, 2) := by decide +kernel
theorem dL_law_593 : decode code 593 = .ok (.bipush 30, 2) := by decide +kernel
theorem dL_law_595 : decode code 595 = .ok (.iadd, 1) := by decide +kernel
theorem dL_law_596 : decode code 596 = .ok (.iload 7, 2) := by decide +kernel
theorem dL_law_598 : decode code 598 = .ok (.iadd, 1) := by decide +kernel
theorem dL_law_599 : decode code 599 = .ok (.istore 12, 2) := by decide +kernel
theorem dL_law_601 : decode code 601 = .ok (.iload 11, 2) := by decide +kernel
theorem dL_law_603 : decode code 603 = .ok (.ifCond .ne 30, 3) := by decide +kernel
theorem dL_law_606 : decode code 606 = .ok (.aload_n 1, 1) := by decide +kernel
