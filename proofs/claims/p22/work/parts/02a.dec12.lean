theorem dX7_isSame_513 : decode cX7_isSame 513 = .ok (.newarray .int, 2) := by decide +kernel
theorem dX7_isSame_515 : decode cX7_isSame 515 = .ok (.dup, 1) := by decide +kernel
theorem dX7_isSame_516 : decode cX7_isSame 516 = .ok (.iconst 0, 1) := by decide +kernel
theorem dX7_isSame_517 : decode cX7_isSame 517 = .ok (.aload_n 0, 1) := by decide +kernel
theorem dX7_isSame_518 : decode cX7_isSame 518 = .ok (.getfield 39, 3) := by decide +kernel
theorem dX7_isSame_521 : decode cX7_isSame 521 = .ok (.iastore, 1) := by decide +kernel
theorem dX7_isSame_522 : decode cX7_isSame 522 = .ok (.dup, 1) := by decide +kernel
theorem dX7_isSame_523 : decode cX7_isSame 523 = .ok (.iconst 1, 1) := by decide +kernel
theorem dX7_isSame_524 : decode cX7_isSame 524 = .ok (.aload_n 0, 1) := by decide +kernel
theorem dX7_isSame_525 : decode cX7_isSame 525 = .ok (.getfield 22, 3) := by decide +kernel
theorem dX7_isSame_528 : decode cX7_isSame 528 = .ok (.iconst 0, 1) := by decide +kernel
theorem dX7_isSame_529 : decode cX7_isSame 529 = .ok (.aaload, 1) := by decide +kernel
theorem dX7_isSame_530 : decode cX7_isSame 530 = .ok (.arraylength, 1) := by decide +kernel
theorem dX7_isSame_531 : decode cX7_isSame 531 = .ok (.aload_n 0, 1) := by decide +kernel
theorem dX7_isSame_532 : decode cX7_isSame 532 = .ok (.getfield 22, 3) := by decide +kernel
theorem dX7_isSame_535 : decode cX7_isSame 535 = .ok (.iconst 1, 1) := by decide +kernel
theorem dX7_isSame_536 : decode cX7_isSame 536 = .ok (.aaload, 1) := by decide +kernel
theorem dX7_isSame_537 : decode cX7_isSame 537 = .ok (.arraylength, 1) := by decide +kernel
theorem dX7_isSame_538 : decode cX7_isSame 538 = .ok (.iadd, 1) := by decide +kernel
theorem dX7_isSame_539 : decode cX7_isSame 539 = .ok (.iastore, 1) := by decide +kernel
theorem dX7_isSame_540 : decode cX7_isSame 540 = .ok (.dup, 1) := by decide +kernel
theorem dX7_isSame_541 : decode cX7_isSame 541 = .ok (.iconst 2, 1) := by decide +kernel
theorem dX7_isSame_542 : decode cX7_isSame 542 = .ok (.aload 4, 2) := by decide +kernel
theorem dX7_isSame_544 : decode cX7_isSame 544 = .ok (.getfield 17, 3) := by decide +kernel
theorem dX7_isSame_547 : decode cX7_isSame 547 = .ok (.iconst 0, 1) := by decide +kernel
theorem dX7_isSame_548 : decode cX7_isSame 548 = .ok (.aaload, 1) := by decide +kernel
theorem dX7_isSame_549 : decode cX7_isSame 549 = .ok (.arraylength, 1) := by decide +kernel
theorem dX7_isSame_550 : decode cX7_isSame 550 = .ok (.iastore, 1) := by decide +kernel
theorem dX7_isSame_551 : decode cX7_isSame 551 = .ok (.dup, 1) := by decide +kernel
theorem dX7_isSame_552 : decode cX7_isSame 552 = .ok (.iconst 3, 1) := by decide +kernel
theorem dX7_isSame_553 : decode cX7_isSame 553 = .ok (.iload_n 2, 1) := by decide +kernel
theorem dX7_isSame_554 : decode cX7_isSame 554 = .ok (.iastore, 1) := by decide +kernel
theorem dX7_isSame_555 : decode cX7_isSame 555 = .ok (.dup, 1) := by decide +kernel
theorem dX7_isSame_556 : decode cX7_isSame 556 = .ok (.iconst 4, 1) := by decide +kernel
theorem dX7_isSame_557 : decode cX7_isSame 557 = .ok (.aload_n 0, 1) := by decide +kernel
theorem dX7_isSame_558 : decode cX7_isSame 558 = .ok (.getfield 43, 3) := by decide +kernel
theorem dX7_isSame_561 : decode cX7_isSame 561 = .ok (.iastore, 1) := by decide +kernel
theorem dX7_isSame_562 : decode cX7_isSame 562 = .ok (.dup, 1) := by decide +kernel
theorem dX7_isSame_563 : decode cX7_isSame 563 = .ok (.iconst 5, 1) := by decide +kernel
theorem dX7_isSame_564 : decode cX7_isSame 564 = .ok (.aload_n 0, 1) := by decide +kernel
theorem dX7_isSame_565 : decode cX7_isSame 565 = .ok (.getfield 29, 3) := by decide +kernel
theorem dX7_isSame_568 : decode cX7_isSame 568 = .ok (.iconst 0, 1) := by decide +kernel
theorem dX7_isSame_569 : decode cX7_isSame 569 = .ok (.iaload, 1) := by decide +kernel
theorem dX7_isSame_570 : decode cX7_isSame 570 = .ok (.aload_n 0, 1) := by decide +kernel
theorem dX7_isSame_571 : decode cX7_isSame 571 = .ok (.getfield 29, 3) := by decide +kernel
theorem dX7_isSame_574 : decode cX7_isSame 574 = .ok (.iconst 1, 1) := by decide +kernel
theorem dX7_isSame_575 : decode cX7_isSame 575 = .ok (.iaload, 1) := by decide +kernel
theorem dX7_isSame_576 : decode cX7_isSame 576 = .ok (.iadd, 1) := by decide +kernel
theorem dX7_isSame_577 : decode cX7_isSame 577 = .ok (.iastore, 1) := by decide +kernel
theorem dX7_isSame_578 : decode cX7_isSame 578 = .ok (.dup, 1) := by decide +kernel
theorem dX7_isSame_579 : decode cX7_isSame 579 = .ok (.bipush 6, 2) := by decide +kernel
theorem dX7_isSame_581 : decode cX7_isSame 581 = .ok (.aload_n 0, 1) := by decide +kernel
theorem dX7_isSame_582 : decode cX7_isSame 582 = .ok (.getfield 32, 3) := by decide +kernel
theorem dX7_isSame_585 : decode cX7_isSame 585 = .ok (.iconst 0, 1) := by decide +kernel
theorem dX7_isSame_586 : decode cX7_isSame 586 = .ok (.iaload, 1) := by decide +kernel
theorem dX7_isSame_587 : decode cX7_isSame 587 = .ok (.aload_n 0, 1) := by decide +kernel
theorem dX7_isSame_588 : decode cX7_isSame 588 = .ok (.getfield 32, 3) := by decide +kernel
theorem dX7_isSame_591 : decode cX7_isSame 591 = .ok (.iconst 1, 1) := by decide +kernel
theorem dX7_isSame_592 : decode cX7_isSame 592 = .ok (.iaload, 1) := by decide +kernel
theorem dX7_isSame_593 : decode cX7_isSame 593 = .ok (.iadd, 1) := by decide +kernel
theorem dX7_isSame_594 : decode cX7_isSame 594 = .ok (.iastore, 1) := by decide +kernel
theorem dX7_isSame_595 : decode cX7_isSame 595 = .ok (.astore 5, 2) := by decide +kernel
theorem dX7_isSame_597 : decode cX7_isSame 597 = .ok (.iconst 0, 1) := by decide +kernel
theorem dX7_isSame_598 : decode cX7_isSame 598 = .ok (.istore 6, 2) := by decide +kernel
theorem dX7_isSame_600 : decode cX7_isSame 600 = .ok (.iload 6, 2) := by decide +kernel
theorem dX7_isSame_602 : decode cX7_isSame 602 = .ok (.bipush 7, 2) := by decide +kernel
theorem dX7_isSame_604 : decode cX7_isSame 604 = .ok (.if_icmp .ge 25, 3) := by decide +kernel
theorem dX7_isSame_607 : decode cX7_isSame 607 = .ok (.aload_n 1, 1) := by decide +kernel
theorem dX7_isSame_608 : decode cX7_isSame 608 = .ok (.iload 6, 2) := by decide +kernel
theorem dX7_isSame_610 : decode cX7_isSame 610 = .ok (.invokevirtual 117, 3) := by decide +kernel
theorem dX7_isSame_613 : decode cX7_isSame 613 = .ok (.aload 5, 2) := by decide +kernel
theorem dX7_isSame_615 : decode cX7_isSame 615 = .ok (.iload 6, 2) := by decide +kernel
theorem dX7_isSame_617 : decode cX7_isSame 617 = .ok (.iaload, 1) := by decide +kernel
theorem dX7_isSame_618 : decode cX7_isSame 618 = .ok (.if_icmp .eq 5, 3) := by decide +kernel
theorem dX7_isSame_621 : decode cX7_isSame 621 = .ok (.iconst 0, 1) := by decide +kernel
theorem dX7_isSame_622 : decode cX7_isSame 622 = .ok (.ireturn, 1) := by decide +kernel
theorem dX7_isSame_623 : decode cX7_isSame 623 = .ok (.iinc 6 1, 3) := by decide +kernel
theorem dX7_isSame_626 : decode cX7_isSame 626 = .ok (.goto (-26), 3) := by decide +kernel
theorem dX7_isSame_629 : decode cX7_isSame 629 = .ok (.aload_n 1, 1) := by decide +kernel
theorem dX7_isSame_630 : decode cX7_isSame 630 = .ok (.invokevirtual 120, 3) := by decide +kernel
theorem dX7_isSame_633 : decode cX7_isSame 633 = .ok (.iload_n 3, 1) := by decide +kernel
theorem dX7_isSame_634 : decode cX7_isSame 634 = .ok (.if_icmp .ne 35, 3) := by decide +kernel
theorem dX7_isSame_637 : decode cX7_isSame 637 = .ok (.aload_n 1, 1) := by decide +kernel
theorem dX7_isSame_638 : decode cX7_isSame 638 = .ok (.invokevirtual 122, 3) := by decide +kernel
theorem dX7_isSame_641 : decode cX7_isSame 641 = .ok (.aload_n 0, 1) := by decide +kernel
theorem dX7_isSame_642 : decode cX7_isSame 642 = .ok (.getfield 17, 3) := by decide +kernel
theorem dX7_isSame_645 : decode cX7_isSame 645 = .ok (.iconst 0, 1) := by decide +kernel
theorem dX7_isSame_646 : decode cX7_isSame 646 = .ok (.aaload, 1) := by decide +kernel
theorem dX7_isSame_647 : decode cX7_isSame 647 = .ok (.arraylength, 1) := by decide +kernel
theorem dX7_isSame_648 : decode cX7_isSame 648 = .ok (.aload_n 0, 1) := by decide +kernel
theorem dX7_isSame_649 : decode cX7_isSame 649 = .ok (.getfield 17, 3) := by decide +kernel
theorem dX7_isSame_652 : decode cX7_isSame 652 = .ok (.iconst 1, 1) := by decide +kernel
theorem dX7_isSame_653 : decode cX7_isSame 653 = .ok (.aaload, 1) := by decide +kernel
theorem dX7_isSame_654 : decode cX7_isSame 654 = .ok (.arraylength, 1) := by decide +kernel
theorem dX7_isSame_655 : decode cX7_isSame 655 = .ok (.iadd, 1) := by decide +kernel
theorem dX7_isSame_656 : decode cX7_isSame 656 = .ok (.i2d, 1) := by decide +kernel
theorem dX7_isSame_657 : decode cX7_isSame 657 = .ok (.ldc2_w 126, 3) := by decide +kernel
theorem dX7_isSame_660 : decode cX7_isSame 660 = .ok (.ddiv, 1) := by decide +kernel
theorem dX7_isSame_661 : decode cX7_isSame 661 = .ok (.dcmp .l, 1) := by decide +kernel
theorem dX7_isSame_662 : decode cX7_isSame 662 = .ok (.ifCond .ne 7, 3) := by decide +kernel
theorem dX7_isSame_665 : decode cX7_isSame 665 = .ok (.iconst 1, 1) := by decide +kernel
theorem dX7_isSame_666 : decode cX7_isSame 666 = .ok (.goto 4, 3) := by decide +kernel
theorem dX7_isSame_669 : decode cX7_isSame 669 = .ok (.iconst 0, 1) := by decide +kernel
theorem dX7_isSame_670 : decode cX7_isSame 670 = .ok (.ireturn, 1) := by decide +kernel
