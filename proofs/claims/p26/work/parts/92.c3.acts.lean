theorem dL_acts_513 : decode cL_acts 513 = .ok (.iconst 0, 1) := by decide +kernel
theorem dL_acts_514 : decode cL_acts 514 = .ok (.ireturn, 1) := by decide +kernel
theorem dL_acts_515 : decode cL_acts 515 = .ok (.aload_n 1, 1) := by decide +kernel
theorem dL_acts_516 : decode cL_acts 516 = .ok (.iconst 4, 1) := by decide +kernel
theorem dL_acts_517 : decode cL_acts 517 = .ok (.iaload, 1) := by decide +kernel
theorem dL_acts_518 : decode cL_acts 518 = .ok (.aload_n 2, 1) := by decide +kernel
theorem dL_acts_519 : decode cL_acts 519 = .ok (.bipush 12, 2) := by decide +kernel
theorem dL_acts_521 : decode cL_acts 521 = .ok (.iload 8, 2) := by decide +kernel
theorem dL_acts_523 : decode cL_acts 523 = .ok (.iadd, 1) := by decide +kernel
theorem dL_acts_524 : decode cL_acts 524 = .ok (.iaload, 1) := by decide +kernel
theorem dL_acts_525 : decode cL_acts 525 = .ok (.if_icmp .le 17, 3) := by decide +kernel
theorem dL_acts_528 : decode cL_acts 528 = .ok (.aload_n 1, 1) := by decide +kernel
theorem dL_acts_529 : decode cL_acts 529 = .ok (.iconst 4, 1) := by decide +kernel
theorem dL_acts_530 : decode cL_acts 530 = .ok (.iaload, 1) := by decide +kernel
theorem dL_acts_531 : decode cL_acts 531 = .ok (.aload_n 2, 1) := by decide +kernel
theorem dL_acts_532 : decode cL_acts 532 = .ok (.bipush 12, 2) := by decide +kernel
theorem dL_acts_534 : decode cL_acts 534 = .ok (.iload 8, 2) := by decide +kernel
theorem dL_acts_536 : decode cL_acts 536 = .ok (.iadd, 1) := by decide +kernel
theorem dL_acts_537 : decode cL_acts 537 = .ok (.iaload, 1) := by decide +kernel
theorem dL_acts_538 : decode cL_acts 538 = .ok (.isub, 1) := by decide +kernel
theorem dL_acts_539 : decode cL_acts 539 = .ok (.goto 4, 3) := by decide +kernel
theorem dL_acts_542 : decode cL_acts 542 = .ok (.iconst 0, 1) := by decide +kernel
theorem dL_acts_543 : decode cL_acts 543 = .ok (.istore 9, 2) := by decide +kernel
theorem dL_acts_545 : decode cL_acts 545 = .ok (.aload_n 2, 1) := by decide +kernel
theorem dL_acts_546 : decode cL_acts 546 = .ok (.bipush 12, 2) := by decide +kernel
theorem dL_acts_548 : decode cL_acts 548 = .ok (.iload 8, 2) := by decide +kernel
theorem dL_acts_550 : decode cL_acts 550 = .ok (.iadd, 1) := by decide +kernel
theorem dL_acts_551 : decode cL_acts 551 = .ok (.dup2, 1) := by decide +kernel
theorem dL_acts_552 : decode cL_acts 552 = .ok (.iaload, 1) := by decide +kernel
theorem dL_acts_553 : decode cL_acts 553 = .ok (.iload 9, 2) := by decide +kernel
theorem dL_acts_555 : decode cL_acts 555 = .ok (.iadd, 1) := by decide +kernel
theorem dL_acts_556 : decode cL_acts 556 = .ok (.iastore, 1) := by decide +kernel
theorem dL_acts_557 : decode cL_acts 557 = .ok (.aload_n 0, 1) := by decide +kernel
theorem dL_acts_558 : decode cL_acts 558 = .ok (.iload 8, 2) := by decide +kernel
theorem dL_acts_560 : decode cL_acts 560 = .ok (.invokevirtual 86, 3) := by decide +kernel
theorem dL_acts_563 : decode cL_acts 563 = .ok (.iload 9, 2) := by decide +kernel
theorem dL_acts_565 : decode cL_acts 565 = .ok (.if_icmp .ne 7, 3) := by decide +kernel
theorem dL_acts_568 : decode cL_acts 568 = .ok (.iconst 1, 1) := by decide +kernel
theorem dL_acts_569 : decode cL_acts 569 = .ok (.goto 4, 3) := by decide +kernel
theorem dL_acts_572 : decode cL_acts 572 = .ok (.iconst 0, 1) := by decide +kernel
theorem dL_acts_573 : decode cL_acts 573 = .ok (.ireturn, 1) := by decide +kernel
theorem dL_acts_574 : decode cL_acts 574 = .ok (.aload_n 1, 1) := by decide +kernel
theorem dL_acts_575 : decode cL_acts 575 = .ok (.iconst 3, 1) := by decide +kernel
theorem dL_acts_576 : decode cL_acts 576 = .ok (.iaload, 1) := by decide +kernel
theorem dL_acts_577 : decode cL_acts 577 = .ok (.ifCond .ne 20, 3) := by decide +kernel
theorem dL_acts_580 : decode cL_acts 580 = .ok (.aload_n 0, 1) := by decide +kernel
theorem dL_acts_581 : decode cL_acts 581 = .ok (.iload 8, 2) := by decide +kernel
theorem dL_acts_583 : decode cL_acts 583 = .ok (.iconst 0, 1) := by decide +kernel
theorem dL_acts_584 : decode cL_acts 584 = .ok (.invokevirtual 89, 3) := by decide +kernel
theorem dL_acts_587 : decode cL_acts 587 = .ok (.iconst (-1), 1) := by decide +kernel
theorem dL_acts_588 : decode cL_acts 588 = .ok (.if_icmp .ne 7, 3) := by decide +kernel
theorem dL_acts_591 : decode cL_acts 591 = .ok (.iconst 1, 1) := by decide +kernel
theorem dL_acts_592 : decode cL_acts 592 = .ok (.goto 4, 3) := by decide +kernel
theorem dL_acts_595 : decode cL_acts 595 = .ok (.iconst 0, 1) := by decide +kernel
theorem dL_acts_596 : decode cL_acts 596 = .ok (.ireturn, 1) := by decide +kernel
theorem dL_acts_597 : decode cL_acts 597 = .ok (.iload 6, 2) := by decide +kernel
theorem dL_acts_599 : decode cL_acts 599 = .ok (.bipush 7, 2) := by decide +kernel
theorem dL_acts_601 : decode cL_acts 601 = .ok (.irem, 1) := by decide +kernel
theorem dL_acts_602 : decode cL_acts 602 = .ok (.ifCond .ne 15, 3) := by decide +kernel
theorem dL_acts_605 : decode cL_acts 605 = .ok (.iload 6, 2) := by decide +kernel
theorem dL_acts_607 : decode cL_acts 607 = .ok (.bipush 84, 2) := by decide +kernel
theorem dL_acts_609 : decode cL_acts 609 = .ok (.idiv, 1) := by decide +kernel
theorem dL_acts_610 : decode cL_acts 610 = .ok (.aload_n 1, 1) := by decide +kernel
theorem dL_acts_611 : decode cL_acts 611 = .ok (.iconst 3, 1) := by decide +kernel
theorem dL_acts_612 : decode cL_acts 612 = .ok (.iaload, 1) := by decide +kernel
theorem dL_acts_613 : decode cL_acts 613 = .ok (.irem, 1) := by decide +kernel
theorem dL_acts_614 : decode cL_acts 614 = .ok (.goto 31, 3) := by decide +kernel
theorem dL_acts_617 : decode cL_acts 617 = .ok (.aload_n 2, 1) := by decide +kernel
theorem dL_acts_618 : decode cL_acts 618 = .ok (.bipush 12, 2) := by decide +kernel
theorem dL_acts_620 : decode cL_acts 620 = .ok (.iload 8, 2) := by decide +kernel
theorem dL_acts_622 : decode cL_acts 622 = .ok (.iadd, 1) := by decide +kernel
theorem dL_acts_623 : decode cL_acts 623 = .ok (.iaload, 1) := by decide +kernel
theorem dL_acts_624 : decode cL_acts 624 = .ok (.aload_n 1, 1) := by decide +kernel
theorem dL_acts_625 : decode cL_acts 625 = .ok (.iconst 3, 1) := by decide +kernel
theorem dL_acts_626 : decode cL_acts 626 = .ok (.iaload, 1) := by decide +kernel
theorem dL_acts_627 : decode cL_acts 627 = .ok (.if_icmp .ge 13, 3) := by decide +kernel
theorem dL_acts_630 : decode cL_acts 630 = .ok (.aload_n 2, 1) := by decide +kernel
theorem dL_acts_631 : decode cL_acts 631 = .ok (.bipush 12, 2) := by decide +kernel
theorem dL_acts_633 : decode cL_acts 633 = .ok (.iload 8, 2) := by decide +kernel
theorem dL_acts_635 : decode cL_acts 635 = .ok (.iadd, 1) := by decide +kernel
theorem dL_acts_636 : decode cL_acts 636 = .ok (.iaload, 1) := by decide +kernel
theorem dL_acts_637 : decode cL_acts 637 = .ok (.goto 8, 3) := by decide +kernel
theorem dL_acts_640 : decode cL_acts 640 = .ok (.aload_n 1, 1) := by decide +kernel
theorem dL_acts_641 : decode cL_acts 641 = .ok (.iconst 3, 1) := by decide +kernel
theorem dL_acts_642 : decode cL_acts 642 = .ok (.iaload, 1) := by decide +kernel
theorem dL_acts_643 : decode cL_acts 643 = .ok (.iconst 1, 1) := by decide +kernel
theorem dL_acts_644 : decode cL_acts 644 = .ok (.isub, 1) := by decide +kernel
theorem dL_acts_645 : decode cL_acts 645 = .ok (.istore 9, 2) := by decide +kernel
theorem dL_acts_647 : decode cL_acts 647 = .ok (.aload_n 1, 1) := by decide +kernel
theorem dL_acts_648 : decode cL_acts 648 = .ok (.aload_n 2, 1) := by decide +kernel
theorem dL_acts_649 : decode cL_acts 649 = .ok (.iload 8, 2) := by decide +kernel
theorem dL_acts_651 : decode cL_acts 651 = .ok (.invokestatic 30, 3) := by decide +kernel
theorem dL_acts_654 : decode cL_acts 654 = .ok (.ifCond .eq 22, 3) := by decide +kernel
theorem dL_acts_657 : decode cL_acts 657 = .ok (.aload_n 2, 1) := by decide +kernel
theorem dL_acts_658 : decode cL_acts 658 = .ok (.iload 8, 2) := by decide +kernel
theorem dL_acts_660 : decode cL_acts 660 = .ok (.iaload, 1) := by decide +kernel
theorem dL_acts_661 : decode cL_acts 661 = .ok (.ifCond .eq 15, 3) := by decide +kernel
theorem dL_acts_664 : decode cL_acts 664 = .ok (.aload_n 2, 1) := by decide +kernel
theorem dL_acts_665 : decode cL_acts 665 = .ok (.bipush 12, 2) := by decide +kernel
theorem dL_acts_667 : decode cL_acts 667 = .ok (.iload 8, 2) := by decide +kernel
theorem dL_acts_669 : decode cL_acts 669 = .ok (.iadd, 1) := by decide +kernel
theorem dL_acts_670 : decode cL_acts 670 = .ok (.iaload, 1) := by decide +kernel
theorem dL_acts_671 : decode cL_acts 671 = .ok (.iload 9, 2) := by decide +kernel
theorem dL_acts_673 : decode cL_acts 673 = .ok (.if_icmp .eq 22, 3) := by decide +kernel
theorem dL_acts_676 : decode cL_acts 676 = .ok (.aload_n 0, 1) := by decide +kernel
theorem dL_acts_677 : decode cL_acts 677 = .ok (.iload 8, 2) := by decide +kernel
theorem dL_acts_679 : decode cL_acts 679 = .ok (.iload 9, 2) := by decide +kernel
theorem dL_acts_681 : decode cL_acts 681 = .ok (.invokevirtual 89, 3) := by decide +kernel
theorem dL_acts_684 : decode cL_acts 684 = .ok (.bipush (-2), 2) := by decide +kernel
theorem dL_acts_686 : decode cL_acts 686 = .ok (.if_icmp .ne 7, 3) := by decide +kernel
theorem dL_acts_689 : decode cL_acts 689 = .ok (.iconst 1, 1) := by decide +kernel
theorem dL_acts_690 : decode cL_acts 690 = .ok (.goto 4, 3) := by decide +kernel
theorem dL_acts_693 : decode cL_acts 693 = .ok (.iconst 0, 1) := by decide +kernel
theorem dL_acts_694 : decode cL_acts 694 = .ok (.ireturn, 1) := by decide +kernel
theorem dL_acts_695 : decode cL_acts 695 = .ok (.aload_n 2, 1) := by decide +kernel
theorem dL_acts_696 : decode cL_acts 696 = .ok (.bipush 12, 2) := by decide +kernel
theorem dL_acts_698 : decode cL_acts 698 = .ok (.iload 8, 2) := by decide +kernel
theorem dL_acts_700 : decode cL_acts 700 = .ok (.iadd, 1) := by decide +kernel
theorem dL_acts_701 : decode cL_acts 701 = .ok (.dup2, 1) := by decide +kernel
theorem dL_acts_702 : decode cL_acts 702 = .ok (.iaload, 1) := by decide +kernel
theorem dL_acts_703 : decode cL_acts 703 = .ok (.iconst 1, 1) := by decide +kernel
theorem dL_acts_704 : decode cL_acts 704 = .ok (.iadd, 1) := by decide +kernel
theorem dL_acts_705 : decode cL_acts 705 = .ok (.iastore, 1) := by decide +kernel
theorem dL_acts_706 : decode cL_acts 706 = .ok (.aload_n 0, 1) := by decide +kernel
theorem dL_acts_707 : decode cL_acts 707 = .ok (.iload 8, 2) := by decide +kernel
theorem dL_acts_709 : decode cL_acts 709 = .ok (.iload 9, 2) := by decide +kernel
theorem dL_acts_711 : decode cL_acts 711 = .ok (.invokevirtual 89, 3) := by decide +kernel
theorem dL_acts_714 : decode cL_acts 714 = .ok (.aload_n 1, 1) := by decide +kernel
theorem dL_acts_715 : decode cL_acts 715 = .ok (.aload_n 2, 1) := by decide +kernel
theorem dL_acts_716 : decode cL_acts 716 = .ok (.invokestatic 42, 3) := by decide +kernel
theorem dL_acts_719 : decode cL_acts 719 = .ok (.if_icmp .ne 7, 3) := by decide +kernel
theorem dL_acts_722 : decode cL_acts 722 = .ok (.iconst 1, 1) := by decide +kernel
theorem dL_acts_723 : decode cL_acts 723 = .ok (.goto 4, 3) := by decide +kernel
theorem dL_acts_726 : decode cL_acts 726 = .ok (.iconst 0, 1) := by decide +kernel
theorem dL_acts_727 : decode cL_acts 727 = .ok (.ireturn, 1) := by decide +kernel
