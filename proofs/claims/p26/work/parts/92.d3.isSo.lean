theorem dL_isSo_536 : decode cL_isSo 536 = .ok (.iload 10, 2) := by decide +kernel
theorem dL_isSo_538 : decode cL_isSo 538 = .ok (.if_icmp .ne 29, 3) := by decide +kernel
theorem dL_isSo_541 : decode cL_isSo 541 = .ok (.aload_n 0, 1) := by decide +kernel
theorem dL_isSo_542 : decode cL_isSo 542 = .ok (.iload 8, 2) := by decide +kernel
theorem dL_isSo_544 : decode cL_isSo 544 = .ok (.bipush 6, 2) := by decide +kernel
theorem dL_isSo_546 : decode cL_isSo 546 = .ok (.invokevirtual 98, 3) := by decide +kernel
theorem dL_isSo_549 : decode cL_isSo 549 = .ok (.aload_n 1, 1) := by decide +kernel
theorem dL_isSo_550 : decode cL_isSo 550 = .ok (.aload_n 2, 1) := by decide +kernel
theorem dL_isSo_551 : decode cL_isSo 551 = .ok (.aload_n 1, 1) := by decide +kernel
theorem dL_isSo_552 : decode cL_isSo 552 = .ok (.invokestatic 15, 3) := by decide +kernel
theorem dL_isSo_555 : decode cL_isSo 555 = .ok (.iload 8, 2) := by decide +kernel
theorem dL_isSo_557 : decode cL_isSo 557 = .ok (.invokestatic 19, 3) := by decide +kernel
theorem dL_isSo_560 : decode cL_isSo 560 = .ok (.if_icmp .ne 7, 3) := by decide +kernel
theorem dL_isSo_563 : decode cL_isSo 563 = .ok (.iconst 1, 1) := by decide +kernel
theorem dL_isSo_564 : decode cL_isSo 564 = .ok (.goto 4, 3) := by decide +kernel
theorem dL_isSo_567 : decode cL_isSo 567 = .ok (.iconst 0, 1) := by decide +kernel
theorem dL_isSo_568 : decode cL_isSo 568 = .ok (.istore 7, 2) := by decide +kernel
theorem dL_isSo_570 : decode cL_isSo 570 = .ok (.iinc 8 1, 3) := by decide +kernel
theorem dL_isSo_573 : decode cL_isSo 573 = .ok (.goto (-211), 3) := by decide +kernel
theorem dL_isSo_576 : decode cL_isSo 576 = .ok (.iconst 0, 1) := by decide +kernel
theorem dL_isSo_577 : decode cL_isSo 577 = .ok (.istore 8, 2) := by decide +kernel
theorem dL_isSo_579 : decode cL_isSo 579 = .ok (.iload 8, 2) := by decide +kernel
theorem dL_isSo_581 : decode cL_isSo 581 = .ok (.aload_n 1, 1) := by decide +kernel
theorem dL_isSo_582 : decode cL_isSo 582 = .ok (.iconst 1, 1) := by decide +kernel
theorem dL_isSo_583 : decode cL_isSo 583 = .ok (.iaload, 1) := by decide +kernel
theorem dL_isSo_584 : decode cL_isSo 584 = .ok (.if_icmp .ge 77, 3) := by decide +kernel
theorem dL_isSo_587 : decode cL_isSo 587 = .ok (.iload 7, 2) := by decide +kernel
theorem dL_isSo_589 : decode cL_isSo 589 = .ok (.ifCond .eq 72, 3) := by decide +kernel
theorem dL_isSo_592 : decode cL_isSo 592 = .ok (.aload_n 0, 1) := by decide +kernel
theorem dL_isSo_593 : decode cL_isSo 593 = .ok (.iconst 0, 1) := by decide +kernel
theorem dL_isSo_594 : decode cL_isSo 594 = .ok (.iload 8, 2) := by decide +kernel
theorem dL_isSo_596 : decode cL_isSo 596 = .ok (.invokevirtual 105, 3) := by decide +kernel
theorem dL_isSo_599 : decode cL_isSo 599 = .ok (.aload_n 2, 1) := by decide +kernel
theorem dL_isSo_600 : decode cL_isSo 600 = .ok (.bipush 24, 2) := by decide +kernel
theorem dL_isSo_602 : decode cL_isSo 602 = .ok (.iload 8, 2) := by decide +kernel
theorem dL_isSo_604 : decode cL_isSo 604 = .ok (.iadd, 1) := by decide +kernel
theorem dL_isSo_605 : decode cL_isSo 605 = .ok (.iaload, 1) := by decide +kernel
theorem dL_isSo_606 : decode cL_isSo 606 = .ok (.if_icmp .ne 46, 3) := by decide +kernel
theorem dL_isSo_609 : decode cL_isSo 609 = .ok (.aload_n 0, 1) := by decide +kernel
theorem dL_isSo_610 : decode cL_isSo 610 = .ok (.iconst 1, 1) := by decide +kernel
theorem dL_isSo_611 : decode cL_isSo 611 = .ok (.iload 8, 2) := by decide +kernel
theorem dL_isSo_613 : decode cL_isSo 613 = .ok (.invokevirtual 105, 3) := by decide +kernel
theorem dL_isSo_616 : decode cL_isSo 616 = .ok (.aload_n 1, 1) := by decide +kernel
theorem dL_isSo_617 : decode cL_isSo 617 = .ok (.iconst 5, 1) := by decide +kernel
theorem dL_isSo_618 : decode cL_isSo 618 = .ok (.iaload, 1) := by decide +kernel
theorem dL_isSo_619 : decode cL_isSo 619 = .ok (.ifCond .ge 8, 3) := by decide +kernel
theorem dL_isSo_622 : decode cL_isSo 622 = .ok (.bipush (-9), 2) := by decide +kernel
theorem dL_isSo_624 : decode cL_isSo 624 = .ok (.goto 10, 3) := by decide +kernel
theorem dL_isSo_627 : decode cL_isSo 627 = .ok (.aload_n 2, 1) := by decide +kernel
theorem dL_isSo_628 : decode cL_isSo 628 = .ok (.bipush 29, 2) := by decide +kernel
theorem dL_isSo_630 : decode cL_isSo 630 = .ok (.iload 8, 2) := by decide +kernel
theorem dL_isSo_632 : decode cL_isSo 632 = .ok (.iadd, 1) := by decide +kernel
theorem dL_isSo_633 : decode cL_isSo 633 = .ok (.iaload, 1) := by decide +kernel
theorem dL_isSo_634 : decode cL_isSo 634 = .ok (.if_icmp .ne 18, 3) := by decide +kernel
theorem dL_isSo_637 : decode cL_isSo 637 = .ok (.aload_n 0, 1) := by decide +kernel
theorem dL_isSo_638 : decode cL_isSo 638 = .ok (.iconst 2, 1) := by decide +kernel
theorem dL_isSo_639 : decode cL_isSo 639 = .ok (.iload 8, 2) := by decide +kernel
theorem dL_isSo_641 : decode cL_isSo 641 = .ok (.invokevirtual 105, 3) := by decide +kernel
theorem dL_isSo_644 : decode cL_isSo 644 = .ok (.iconst (-1), 1) := by decide +kernel
theorem dL_isSo_645 : decode cL_isSo 645 = .ok (.if_icmp .ne 7, 3) := by decide +kernel
theorem dL_isSo_648 : decode cL_isSo 648 = .ok (.iconst 1, 1) := by decide +kernel
theorem dL_isSo_649 : decode cL_isSo 649 = .ok (.goto 4, 3) := by decide +kernel
theorem dL_isSo_652 : decode cL_isSo 652 = .ok (.iconst 0, 1) := by decide +kernel
theorem dL_isSo_653 : decode cL_isSo 653 = .ok (.istore 7, 2) := by decide +kernel
theorem dL_isSo_655 : decode cL_isSo 655 = .ok (.iinc 8 1, 3) := by decide +kernel
theorem dL_isSo_658 : decode cL_isSo 658 = .ok (.goto (-79), 3) := by decide +kernel
theorem dL_isSo_661 : decode cL_isSo 661 = .ok (.iconst 0, 1) := by decide +kernel
theorem dL_isSo_662 : decode cL_isSo 662 = .ok (.istore 8, 2) := by decide +kernel
theorem dL_isSo_664 : decode cL_isSo 664 = .ok (.iconst 0, 1) := by decide +kernel
theorem dL_isSo_665 : decode cL_isSo 665 = .ok (.istore 9, 2) := by decide +kernel
theorem dL_isSo_667 : decode cL_isSo 667 = .ok (.iload 9, 2) := by decide +kernel
theorem dL_isSo_669 : decode cL_isSo 669 = .ok (.aload_n 1, 1) := by decide +kernel
theorem dL_isSo_670 : decode cL_isSo 670 = .ok (.iconst 4, 1) := by decide +kernel
theorem dL_isSo_671 : decode cL_isSo 671 = .ok (.iaload, 1) := by decide +kernel
theorem dL_isSo_672 : decode cL_isSo 672 = .ok (.if_icmp .ge 32, 3) := by decide +kernel
theorem dL_isSo_675 : decode cL_isSo 675 = .ok (.iload 8, 2) := by decide +kernel
theorem dL_isSo_677 : decode cL_isSo 677 = .ok (.aload_n 3, 1) := by decide +kernel
theorem dL_isSo_678 : decode cL_isSo 678 = .ok (.iload 9, 2) := by decide +kernel
theorem dL_isSo_680 : decode cL_isSo 680 = .ok (.laload, 1) := by decide +kernel
theorem dL_isSo_681 : decode cL_isSo 681 = .ok (.ldc2_w 101, 3) := by decide +kernel
theorem dL_isSo_684 : decode cL_isSo 684 = .ok (.land, 1) := by decide +kernel
theorem dL_isSo_685 : decode cL_isSo 685 = .ok (.lconst 0, 1) := by decide +kernel
theorem dL_isSo_686 : decode cL_isSo 686 = .ok (.lcmp, 1) := by decide +kernel
theorem dL_isSo_687 : decode cL_isSo 687 = .ok (.ifCond .ne 7, 3) := by decide +kernel
theorem dL_isSo_690 : decode cL_isSo 690 = .ok (.iconst 1, 1) := by decide +kernel
theorem dL_isSo_691 : decode cL_isSo 691 = .ok (.goto 4, 3) := by decide +kernel
theorem dL_isSo_694 : decode cL_isSo 694 = .ok (.iconst 0, 1) := by decide +kernel
theorem dL_isSo_695 : decode cL_isSo 695 = .ok (.iadd, 1) := by decide +kernel
theorem dL_isSo_696 : decode cL_isSo 696 = .ok (.istore 8, 2) := by decide +kernel
theorem dL_isSo_698 : decode cL_isSo 698 = .ok (.iinc 9 1, 3) := by decide +kernel
theorem dL_isSo_701 : decode cL_isSo 701 = .ok (.goto (-34), 3) := by decide +kernel
theorem dL_isSo_704 : decode cL_isSo 704 = .ok (.iload 7, 2) := by decide +kernel
theorem dL_isSo_706 : decode cL_isSo 706 = .ok (.ifCond .eq 37, 3) := by decide +kernel
theorem dL_isSo_709 : decode cL_isSo 709 = .ok (.iload 8, 2) := by decide +kernel
theorem dL_isSo_711 : decode cL_isSo 711 = .ok (.aload_n 1, 1) := by decide +kernel
theorem dL_isSo_712 : decode cL_isSo 712 = .ok (.iconst 2, 1) := by decide +kernel
theorem dL_isSo_713 : decode cL_isSo 713 = .ok (.iaload, 1) := by decide +kernel
theorem dL_isSo_714 : decode cL_isSo 714 = .ok (.if_icmp .ne 29, 3) := by decide +kernel
theorem dL_isSo_717 : decode cL_isSo 717 = .ok (.aload_n 1, 1) := by decide +kernel
theorem dL_isSo_718 : decode cL_isSo 718 = .ok (.bipush 7, 2) := by decide +kernel
theorem dL_isSo_720 : decode cL_isSo 720 = .ok (.iaload, 1) := by decide +kernel
theorem dL_isSo_721 : decode cL_isSo 721 = .ok (.aload_n 1, 1) := by decide +kernel
theorem dL_isSo_722 : decode cL_isSo 722 = .ok (.iconst 2, 1) := by decide +kernel
theorem dL_isSo_723 : decode cL_isSo 723 = .ok (.iaload, 1) := by decide +kernel
theorem dL_isSo_724 : decode cL_isSo 724 = .ok (.aload_n 1, 1) := by decide +kernel
theorem dL_isSo_725 : decode cL_isSo 725 = .ok (.iconst 5, 1) := by decide +kernel
theorem dL_isSo_726 : decode cL_isSo 726 = .ok (.iaload, 1) := by decide +kernel
theorem dL_isSo_727 : decode cL_isSo 727 = .ok (.ifCond .ge 7, 3) := by decide +kernel
theorem dL_isSo_730 : decode cL_isSo 730 = .ok (.iconst 0, 1) := by decide +kernel
theorem dL_isSo_731 : decode cL_isSo 731 = .ok (.goto 4, 3) := by decide +kernel
theorem dL_isSo_734 : decode cL_isSo 734 = .ok (.iconst 1, 1) := by decide +kernel
theorem dL_isSo_735 : decode cL_isSo 735 = .ok (.iadd, 1) := by decide +kernel
theorem dL_isSo_736 : decode cL_isSo 736 = .ok (.if_icmp .ne 7, 3) := by decide +kernel
theorem dL_isSo_739 : decode cL_isSo 739 = .ok (.iconst 1, 1) := by decide +kernel
theorem dL_isSo_740 : decode cL_isSo 740 = .ok (.goto 4, 3) := by decide +kernel
theorem dL_isSo_743 : decode cL_isSo 743 = .ok (.iconst 0, 1) := by decide +kernel
theorem dL_isSo_744 : decode cL_isSo 744 = .ok (.istore 7, 2) := by decide +kernel
theorem dL_isSo_746 : decode cL_isSo 746 = .ok (.iload 7, 2) := by decide +kernel
theorem dL_isSo_748 : decode cL_isSo 748 = .ok (.ifCond .eq 187, 3) := by decide +kernel
theorem dL_isSo_751 : decode cL_isSo 751 = .ok (.aload_n 0, 1) := by decide +kernel
theorem dL_isSo_752 : decode cL_isSo 752 = .ok (.iconst 0, 1) := by decide +kernel
theorem dL_isSo_753 : decode cL_isSo 753 = .ok (.invokevirtual 108, 3) := by decide +kernel
theorem dL_isSo_756 : decode cL_isSo 756 = .ok (.aload_n 1, 1) := by decide +kernel
theorem dL_isSo_757 : decode cL_isSo 757 = .ok (.iconst 0, 1) := by decide +kernel
theorem dL_isSo_758 : decode cL_isSo 758 = .ok (.iaload, 1) := by decide +kernel
theorem dL_isSo_759 : decode cL_isSo 759 = .ok (.if_icmp .ne 176, 3) := by decide +kernel
theorem dL_isSo_762 : decode cL_isSo 762 = .ok (.aload_n 0, 1) := by decide +kernel
theorem dL_isSo_763 : decode cL_isSo 763 = .ok (.iconst 1, 1) := by decide +kernel
theorem dL_isSo_764 : decode cL_isSo 764 = .ok (.invokevirtual 108, 3) := by decide +kernel
theorem dL_isSo_767 : decode cL_isSo 767 = .ok (.iload 5, 2) := by decide +kernel
theorem dL_isSo_769 : decode cL_isSo 769 = .ok (.if_icmp .ne 166, 3) := by decide +kernel
theorem dL_isSo_772 : decode cL_isSo 772 = .ok (.aload_n 0, 1) := by decide +kernel
theorem dL_isSo_773 : decode cL_isSo 773 = .ok (.iconst 2, 1) := by decide +kernel
theorem dL_isSo_774 : decode cL_isSo 774 = .ok (.invokevirtual 108, 3) := by decide +kernel
theorem dL_isSo_777 : decode cL_isSo 777 = .ok (.aload_n 1, 1) := by decide +kernel
theorem dL_isSo_778 : decode cL_isSo 778 = .ok (.iconst 1, 1) := by decide +kernel
theorem dL_isSo_779 : decode cL_isSo 779 = .ok (.iaload, 1) := by decide +kernel
theorem dL_isSo_780 : decode cL_isSo 780 = .ok (.if_icmp .ne 155, 3) := by decide +kernel
theorem dL_isSo_783 : decode cL_isSo 783 = .ok (.aload_n 0, 1) := by decide +kernel
theorem dL_isSo_784 : decode cL_isSo 784 = .ok (.iconst 3, 1) := by decide +kernel
theorem dL_isSo_785 : decode cL_isSo 785 = .ok (.invokevirtual 108, 3) := by decide +kernel
theorem dL_isSo_788 : decode cL_isSo 788 = .ok (.aload_n 1, 1) := by decide +kernel
theorem dL_isSo_789 : decode cL_isSo 789 = .ok (.iconst 2, 1) := by decide +kernel
theorem dL_isSo_790 : decode cL_isSo 790 = .ok (.iaload, 1) := by decide +kernel
theorem dL_isSo_791 : decode cL_isSo 791 = .ok (.if_icmp .ne 144, 3) := by decide +kernel
theorem dL_isSo_794 : decode cL_isSo 794 = .ok (.aload_n 0, 1) := by decide +kernel
theorem dL_isSo_795 : decode cL_isSo 795 = .ok (.iconst 4, 1) := by decide +kernel
theorem dL_isSo_796 : decode cL_isSo 796 = .ok (.invokevirtual 108, 3) := by decide +kernel
theorem dL_isSo_799 : decode cL_isSo 799 = .ok (.aload_n 1, 1) := by decide +kernel
theorem dL_isSo_800 : decode cL_isSo 800 = .ok (.iconst 3, 1) := by decide +kernel
