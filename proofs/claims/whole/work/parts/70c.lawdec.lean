theorem d_Law_law_439 : decode m_Law_law.2.1 439 = .ok (.lshl, 1) := by decide +kernel
theorem d_Law_law_440 : decode m_Law_law.2.1 440 = .ok (.aload_n 0, 1) := by decide +kernel
theorem d_Law_law_441 : decode m_Law_law.2.1 441 = .ok (.iload 4, 2) := by decide +kernel
theorem d_Law_law_443 : decode m_Law_law.2.1 443 = .ok (.iconst 3, 1) := by decide +kernel
theorem d_Law_law_444 : decode m_Law_law.2.1 444 = .ok (.iadd, 1) := by decide +kernel
theorem d_Law_law_445 : decode m_Law_law.2.1 445 = .ok (.iaload, 1) := by decide +kernel
theorem d_Law_law_446 : decode m_Law_law.2.1 446 = .ok (.i2l, 1) := by decide +kernel
theorem d_Law_law_447 : decode m_Law_law.2.1 447 = .ok (.ldc2_w 76, 3) := by decide +kernel
theorem d_Law_law_450 : decode m_Law_law.2.1 450 = .ok (.land, 1) := by decide +kernel
theorem d_Law_law_451 : decode m_Law_law.2.1 451 = .ok (.lor, 1) := by decide +kernel
theorem d_Law_law_452 : decode m_Law_law.2.1 452 = .ok (.invokevirtual 89, 3) := by decide +kernel
theorem d_Law_law_455 : decode m_Law_law.2.1 455 = .ok (.istore 6, 2) := by decide +kernel
theorem d_Law_law_457 : decode m_Law_law.2.1 457 = .ok (.aload_n 2, 1) := by decide +kernel
theorem d_Law_law_458 : decode m_Law_law.2.1 458 = .ok (.invokevirtual 73, 3) := by decide +kernel
theorem d_Law_law_461 : decode m_Law_law.2.1 461 = .ok (.iload 5, 2) := by decide +kernel
theorem d_Law_law_463 : decode m_Law_law.2.1 463 = .ok (.if_icmp .eq 5, 3) := by decide +kernel
theorem d_Law_law_466 : decode m_Law_law.2.1 466 = .ok (.iconst 0, 1) := by decide +kernel
theorem d_Law_law_467 : decode m_Law_law.2.1 467 = .ok (.ireturn, 1) := by decide +kernel
theorem d_Law_law_468 : decode m_Law_law.2.1 468 = .ok (.iload 5, 2) := by decide +kernel
theorem d_Law_law_470 : decode m_Law_law.2.1 470 = .ok (.ifCond .ne 22, 3) := by decide +kernel
theorem d_Law_law_473 : decode m_Law_law.2.1 473 = .ok (.aload_n 3, 1) := by decide +kernel
theorem d_Law_law_474 : decode m_Law_law.2.1 474 = .ok (.iconst 0, 1) := by decide +kernel
theorem d_Law_law_475 : decode m_Law_law.2.1 475 = .ok (.laload, 1) := by decide +kernel
theorem d_Law_law_476 : decode m_Law_law.2.1 476 = .ok (.iload 6, 2) := by decide +kernel
theorem d_Law_law_478 : decode m_Law_law.2.1 478 = .ok (.ifCond .eq 7, 3) := by decide +kernel
theorem d_Law_law_481 : decode m_Law_law.2.1 481 = .ok (.lconst 1, 1) := by decide +kernel
theorem d_Law_law_482 : decode m_Law_law.2.1 482 = .ok (.goto 4, 3) := by decide +kernel
theorem d_Law_law_485 : decode m_Law_law.2.1 485 = .ok (.lconst 0, 1) := by decide +kernel
theorem d_Law_law_486 : decode m_Law_law.2.1 486 = .ok (.lcmp, 1) := by decide +kernel
theorem d_Law_law_487 : decode m_Law_law.2.1 487 = .ok (.ifCond .eq 5, 3) := by decide +kernel
theorem d_Law_law_490 : decode m_Law_law.2.1 490 = .ok (.iconst 0, 1) := by decide +kernel
theorem d_Law_law_491 : decode m_Law_law.2.1 491 = .ok (.ireturn, 1) := by decide +kernel
theorem d_Law_law_492 : decode m_Law_law.2.1 492 = .ok (.goto 970, 3) := by decide +kernel
theorem d_Law_law_495 : decode m_Law_law.2.1 495 = .ok (.aload_n 1, 1) := by decide +kernel
theorem d_Law_law_496 : decode m_Law_law.2.1 496 = .ok (.aload_n 0, 1) := by decide +kernel
theorem d_Law_law_497 : decode m_Law_law.2.1 497 = .ok (.iload 4, 2) := by decide +kernel
theorem d_Law_law_499 : decode m_Law_law.2.1 499 = .ok (.iconst 1, 1) := by decide +kernel
theorem d_Law_law_500 : decode m_Law_law.2.1 500 = .ok (.iadd, 1) := by decide +kernel
theorem d_Law_law_501 : decode m_Law_law.2.1 501 = .ok (.iaload, 1) := by decide +kernel
theorem d_Law_law_502 : decode m_Law_law.2.1 502 = .ok (.invokevirtual 90, 3) := by decide +kernel
theorem d_Law_law_505 : decode m_Law_law.2.1 505 = .ok (.aload_n 2, 1) := by decide +kernel
theorem d_Law_law_506 : decode m_Law_law.2.1 506 = .ok (.aload_n 0, 1) := by decide +kernel
theorem d_Law_law_507 : decode m_Law_law.2.1 507 = .ok (.iload 4, 2) := by decide +kernel
theorem d_Law_law_509 : decode m_Law_law.2.1 509 = .ok (.iconst 1, 1) := by decide +kernel
theorem d_Law_law_510 : decode m_Law_law.2.1 510 = .ok (.iadd, 1) := by decide +kernel
theorem d_Law_law_511 : decode m_Law_law.2.1 511 = .ok (.iaload, 1) := by decide +kernel
theorem d_Law_law_512 : decode m_Law_law.2.1 512 = .ok (.invokevirtual 93, 3) := by decide +kernel
theorem d_Law_law_515 : decode m_Law_law.2.1 515 = .ok (.if_icmp .eq 947, 3) := by decide +kernel
theorem d_Law_law_518 : decode m_Law_law.2.1 518 = .ok (.iconst 0, 1) := by decide +kernel
theorem d_Law_law_519 : decode m_Law_law.2.1 519 = .ok (.ireturn, 1) := by decide +kernel
theorem d_Law_law_520 : decode m_Law_law.2.1 520 = .ok (.aload_n 1, 1) := by decide +kernel
theorem d_Law_law_521 : decode m_Law_law.2.1 521 = .ok (.aload_n 0, 1) := by decide +kernel
theorem d_Law_law_522 : decode m_Law_law.2.1 522 = .ok (.iload 4, 2) := by decide +kernel
theorem d_Law_law_524 : decode m_Law_law.2.1 524 = .ok (.iconst 1, 1) := by decide +kernel
theorem d_Law_law_525 : decode m_Law_law.2.1 525 = .ok (.iadd, 1) := by decide +kernel
theorem d_Law_law_526 : decode m_Law_law.2.1 526 = .ok (.iaload, 1) := by decide +kernel
theorem d_Law_law_527 : decode m_Law_law.2.1 527 = .ok (.aload_n 0, 1) := by decide +kernel
theorem d_Law_law_528 : decode m_Law_law.2.1 528 = .ok (.iload 4, 2) := by decide +kernel
theorem d_Law_law_530 : decode m_Law_law.2.1 530 = .ok (.iconst 2, 1) := by decide +kernel
theorem d_Law_law_531 : decode m_Law_law.2.1 531 = .ok (.iadd, 1) := by decide +kernel
theorem d_Law_law_532 : decode m_Law_law.2.1 532 = .ok (.iaload, 1) := by decide +kernel
theorem d_Law_law_533 : decode m_Law_law.2.1 533 = .ok (.i2l, 1) := by decide +kernel
theorem d_Law_law_534 : decode m_Law_law.2.1 534 = .ok (.bipush 32, 2) := by decide +kernel
theorem d_Law_law_536 : decode m_Law_law.2.1 536 = .ok (.lshl, 1) := by decide +kernel
theorem d_Law_law_537 : decode m_Law_law.2.1 537 = .ok (.aload_n 0, 1) := by decide +kernel
theorem d_Law_law_538 : decode m_Law_law.2.1 538 = .ok (.iload 4, 2) := by decide +kernel
theorem d_Law_law_540 : decode m_Law_law.2.1 540 = .ok (.iconst 3, 1) := by decide +kernel
theorem d_Law_law_541 : decode m_Law_law.2.1 541 = .ok (.iadd, 1) := by decide +kernel
theorem d_Law_law_542 : decode m_Law_law.2.1 542 = .ok (.iaload, 1) := by decide +kernel
theorem d_Law_law_543 : decode m_Law_law.2.1 543 = .ok (.i2l, 1) := by decide +kernel
theorem d_Law_law_544 : decode m_Law_law.2.1 544 = .ok (.ldc2_w 76, 3) := by decide +kernel
theorem d_Law_law_547 : decode m_Law_law.2.1 547 = .ok (.land, 1) := by decide +kernel
theorem d_Law_law_548 : decode m_Law_law.2.1 548 = .ok (.lor, 1) := by decide +kernel
theorem d_Law_law_549 : decode m_Law_law.2.1 549 = .ok (.aload_n 0, 1) := by decide +kernel
theorem d_Law_law_550 : decode m_Law_law.2.1 550 = .ok (.iload 4, 2) := by decide +kernel
theorem d_Law_law_552 : decode m_Law_law.2.1 552 = .ok (.iconst 4, 1) := by decide +kernel
theorem d_Law_law_553 : decode m_Law_law.2.1 553 = .ok (.iadd, 1) := by decide +kernel
theorem d_Law_law_554 : decode m_Law_law.2.1 554 = .ok (.iaload, 1) := by decide +kernel
theorem d_Law_law_555 : decode m_Law_law.2.1 555 = .ok (.ifCond .eq 7, 3) := by decide +kernel
theorem d_Law_law_558 : decode m_Law_law.2.1 558 = .ok (.iconst 1, 1) := by decide +kernel
theorem d_Law_law_559 : decode m_Law_law.2.1 559 = .ok (.goto 4, 3) := by decide +kernel
theorem d_Law_law_562 : decode m_Law_law.2.1 562 = .ok (.iconst 0, 1) := by decide +kernel
theorem d_Law_law_563 : decode m_Law_law.2.1 563 = .ok (.aload_n 3, 1) := by decide +kernel
theorem d_Law_law_564 : decode m_Law_law.2.1 564 = .ok (.invokestatic 94, 3) := by decide +kernel
theorem d_Law_law_567 : decode m_Law_law.2.1 567 = .ok (.istore 5, 2) := by decide +kernel
theorem d_Law_law_569 : decode m_Law_law.2.1 569 = .ok (.aload_n 2, 1) := by decide +kernel
theorem d_Law_law_570 : decode m_Law_law.2.1 570 = .ok (.aload_n 0, 1) := by decide +kernel
theorem d_Law_law_571 : decode m_Law_law.2.1 571 = .ok (.iload 4, 2) := by decide +kernel
theorem d_Law_law_573 : decode m_Law_law.2.1 573 = .ok (.iconst 1, 1) := by decide +kernel
theorem d_Law_law_574 : decode m_Law_law.2.1 574 = .ok (.iadd, 1) := by decide +kernel
theorem d_Law_law_575 : decode m_Law_law.2.1 575 = .ok (.iaload, 1) := by decide +kernel
theorem d_Law_law_576 : decode m_Law_law.2.1 576 = .ok (.aload_n 0, 1) := by decide +kernel
theorem d_Law_law_577 : decode m_Law_law.2.1 577 = .ok (.iload 4, 2) := by decide +kernel
theorem d_Law_law_579 : decode m_Law_law.2.1 579 = .ok (.iconst 2, 1) := by decide +kernel
theorem d_Law_law_580 : decode m_Law_law.2.1 580 = .ok (.iadd, 1) := by decide +kernel
theorem d_Law_law_581 : decode m_Law_law.2.1 581 = .ok (.iaload, 1) := by decide +kernel
theorem d_Law_law_582 : decode m_Law_law.2.1 582 = .ok (.i2l, 1) := by decide +kernel
theorem d_Law_law_583 : decode m_Law_law.2.1 583 = .ok (.bipush 32, 2) := by decide +kernel
theorem d_Law_law_585 : decode m_Law_law.2.1 585 = .ok (.lshl, 1) := by decide +kernel
theorem d_Law_law_586 : decode m_Law_law.2.1 586 = .ok (.aload_n 0, 1) := by decide +kernel
theorem d_Law_law_587 : decode m_Law_law.2.1 587 = .ok (.iload 4, 2) := by decide +kernel
theorem d_Law_law_589 : decode m_Law_law.2.1 589 = .ok (.iconst 3, 1) := by decide +kernel
theorem d_Law_law_590 : decode m_Law_law.2.1 590 = .ok (.iadd, 1) := by decide +kernel
theorem d_Law_law_591 : decode m_Law_law.2.1 591 = .ok (.iaload, 1) := by decide +kernel
theorem d_Law_law_592 : decode m_Law_law.2.1 592 = .ok (.i2l, 1) := by decide +kernel
theorem d_Law_law_593 : decode m_Law_law.2.1 593 = .ok (.ldc2_w 76, 3) := by decide +kernel
theorem d_Law_law_596 : decode m_Law_law.2.1 596 = .ok (.land, 1) := by decide +kernel
theorem d_Law_law_597 : decode m_Law_law.2.1 597 = .ok (.lor, 1) := by decide +kernel
theorem d_Law_law_598 : decode m_Law_law.2.1 598 = .ok (.aload_n 0, 1) := by decide +kernel
theorem d_Law_law_599 : decode m_Law_law.2.1 599 = .ok (.iload 4, 2) := by decide +kernel
theorem d_Law_law_601 : decode m_Law_law.2.1 601 = .ok (.iconst 4, 1) := by decide +kernel
theorem d_Law_law_602 : decode m_Law_law.2.1 602 = .ok (.iadd, 1) := by decide +kernel
theorem d_Law_law_603 : decode m_Law_law.2.1 603 = .ok (.iaload, 1) := by decide +kernel
theorem d_Law_law_604 : decode m_Law_law.2.1 604 = .ok (.ifCond .eq 7, 3) := by decide +kernel
theorem d_Law_law_607 : decode m_Law_law.2.1 607 = .ok (.iconst 1, 1) := by decide +kernel
theorem d_Law_law_608 : decode m_Law_law.2.1 608 = .ok (.goto 4, 3) := by decide +kernel
theorem d_Law_law_611 : decode m_Law_law.2.1 611 = .ok (.iconst 0, 1) := by decide +kernel
theorem d_Law_law_612 : decode m_Law_law.2.1 612 = .ok (.invokevirtual 97, 3) := by decide +kernel
theorem d_Law_law_615 : decode m_Law_law.2.1 615 = .ok (.lstore 6, 2) := by decide +kernel
theorem d_Law_law_617 : decode m_Law_law.2.1 617 = .ok (.aload_n 2, 1) := by decide +kernel
