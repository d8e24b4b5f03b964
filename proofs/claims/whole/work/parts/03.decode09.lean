theorem d_la_law_558 : decode code 558 = .ok (.aload_n 3, 1) := by decide +kernel
theorem d_la_law_559 : decode code 559 = .ok (.invokestatic 113, 3) := by decide +kernel
theorem d_la_law_562 : decode code 562 = .ok (.istore 5, 2) := by decide +kernel
theorem d_la_law_564 : decode code 564 = .ok (.aload_n 2, 1) := by decide +kernel
theorem d_la_law_565 : decode code 565 = .ok (.aload_n 0, 1) := by decide +kernel
theorem d_la_law_566 : decode code 566 = .ok (.iload 4, 2) := by decide +kernel
theorem d_la_law_568 : decode code 568 = .ok (.iconst 1, 1) := by decide +kernel
theorem d_la_law_569 : decode code 569 = .ok (.iadd, 1) := by decide +kernel
theorem d_la_law_570 : decode code 570 = .ok (.iaload, 1) := by decide +kernel
theorem d_la_law_571 : decode code 571 = .ok (.aload_n 0, 1) := by decide +kernel
theorem d_la_law_572 : decode code 572 = .ok (.iload 4, 2) := by decide +kernel
theorem d_la_law_574 : decode code 574 = .ok (.iconst 2, 1) := by decide +kernel
theorem d_la_law_575 : decode code 575 = .ok (.iadd, 1) := by decide +kernel
theorem d_la_law_576 : decode code 576 = .ok (.iaload, 1) := by decide +kernel
theorem d_la_law_577 : decode code 577 = .ok (.aload_n 0, 1) := by decide +kernel
theorem d_la_law_578 : decode code 578 = .ok (.iload 4, 2) := by decide +kernel
theorem d_la_law_580 : decode code 580 = .ok (.iconst 3, 1) := by decide +kernel
theorem d_la_law_581 : decode code 581 = .ok (.iadd, 1) := by decide +kernel
theorem d_la_law_582 : decode code 582 = .ok (.iaload, 1) := by decide +kernel
theorem d_la_law_583 : decode code 583 = .ok (.invokevirtual 116, 3) := by decide +kernel
theorem d_la_law_586 : decode code 586 = .ok (.istore 6, 2) := by decide +kernel
theorem d_la_law_588 : decode code 588 = .ok (.aload_n 2, 1) := by decide +kernel
theorem d_la_law_589 : decode code 589 = .ok (.invokevirtual 87, 3) := by decide +kernel
theorem d_la_law_592 : decode code 592 = .ok (.iload 5, 2) := by decide +kernel
theorem d_la_law_594 : decode code 594 = .ok (.if_icmp .eq 5, 3) := by decide +kernel
theorem d_la_law_597 : decode code 597 = .ok (.iconst 0, 1) := by decide +kernel
theorem d_la_law_598 : decode code 598 = .ok (.ireturn, 1) := by decide +kernel
theorem d_la_law_599 : decode code 599 = .ok (.iload 5, 2) := by decide +kernel
theorem d_la_law_601 : decode code 601 = .ok (.ifCond .ne 15, 3) := by decide +kernel
theorem d_la_law_604 : decode code 604 = .ok (.aload_n 3, 1) := by decide +kernel
theorem d_la_law_605 : decode code 605 = .ok (.iconst 0, 1) := by decide +kernel
theorem d_la_law_606 : decode code 606 = .ok (.laload, 1) := by decide +kernel
theorem d_la_law_607 : decode code 607 = .ok (.iload 6, 2) := by decide +kernel
theorem d_la_law_609 : decode code 609 = .ok (.i2l, 1) := by decide +kernel
theorem d_la_law_610 : decode code 610 = .ok (.lcmp, 1) := by decide +kernel
theorem d_la_law_611 : decode code 611 = .ok (.ifCond .eq 5, 3) := by decide +kernel
theorem d_la_law_614 : decode code 614 = .ok (.iconst 0, 1) := by decide +kernel
theorem d_la_law_615 : decode code 615 = .ok (.ireturn, 1) := by decide +kernel
theorem d_la_law_616 : decode code 616 = .ok (.goto 555, 3) := by decide +kernel
theorem d_la_law_619 : decode code 619 = .ok (.aload_n 1, 1) := by decide +kernel
theorem d_la_law_620 : decode code 620 = .ok (.aload_n 0, 1) := by decide +kernel
theorem d_la_law_621 : decode code 621 = .ok (.iload 4, 2) := by decide +kernel
theorem d_la_law_623 : decode code 623 = .ok (.iconst 1, 1) := by decide +kernel
theorem d_la_law_624 : decode code 624 = .ok (.iadd, 1) := by decide +kernel
theorem d_la_law_625 : decode code 625 = .ok (.iaload, 1) := by decide +kernel
theorem d_la_law_626 : decode code 626 = .ok (.aload_n 0, 1) := by decide +kernel
theorem d_la_law_627 : decode code 627 = .ok (.iload 4, 2) := by decide +kernel
theorem d_la_law_629 : decode code 629 = .ok (.iconst 2, 1) := by decide +kernel
theorem d_la_law_630 : decode code 630 = .ok (.iadd, 1) := by decide +kernel
theorem d_la_law_631 : decode code 631 = .ok (.iaload, 1) := by decide +kernel
theorem d_la_law_632 : decode code 632 = .ok (.aload_n 3, 1) := by decide +kernel
theorem d_la_law_633 : decode code 633 = .ok (.invokestatic 117, 3) := by decide +kernel
theorem d_la_law_636 : decode code 636 = .ok (.istore 5, 2) := by decide +kernel
theorem d_la_law_638 : decode code 638 = .ok (.aload_n 2, 1) := by decide +kernel
theorem d_la_law_639 : decode code 639 = .ok (.aload_n 0, 1) := by decide +kernel
theorem d_la_law_640 : decode code 640 = .ok (.iload 4, 2) := by decide +kernel
theorem d_la_law_642 : decode code 642 = .ok (.iconst 1, 1) := by decide +kernel
theorem d_la_law_643 : decode code 643 = .ok (.iadd, 1) := by decide +kernel
theorem d_la_law_644 : decode code 644 = .ok (.iaload, 1) := by decide +kernel
theorem d_la_law_645 : decode code 645 = .ok (.aload_n 0, 1) := by decide +kernel
theorem d_la_law_646 : decode code 646 = .ok (.iload 4, 2) := by decide +kernel
theorem d_la_law_648 : decode code 648 = .ok (.iconst 2, 1) := by decide +kernel
theorem d_la_law_649 : decode code 649 = .ok (.iadd, 1) := by decide +kernel
theorem d_la_law_650 : decode code 650 = .ok (.iaload, 1) := by decide +kernel
theorem d_la_law_651 : decode code 651 = .ok (.invokevirtual 120, 3) := by decide +kernel
theorem d_la_law_654 : decode code 654 = .ok (.istore 6, 2) := by decide +kernel
theorem d_la_law_656 : decode code 656 = .ok (.aload_n 2, 1) := by decide +kernel
theorem d_la_law_657 : decode code 657 = .ok (.invokevirtual 87, 3) := by decide +kernel
theorem d_la_law_660 : decode code 660 = .ok (.iload 5, 2) := by decide +kernel
theorem d_la_law_662 : decode code 662 = .ok (.if_icmp .eq 5, 3) := by decide +kernel
theorem d_la_law_665 : decode code 665 = .ok (.iconst 0, 1) := by decide +kernel
theorem d_la_law_666 : decode code 666 = .ok (.ireturn, 1) := by decide +kernel
theorem d_la_law_667 : decode code 667 = .ok (.iload 5, 2) := by decide +kernel
theorem d_la_law_669 : decode code 669 = .ok (.ifCond .ne 22, 3) := by decide +kernel
theorem d_la_law_672 : decode code 672 = .ok (.aload_n 3, 1) := by decide +kernel
theorem d_la_law_673 : decode code 673 = .ok (.iconst 0, 1) := by decide +kernel
theorem d_la_law_674 : decode code 674 = .ok (.laload, 1) := by decide +kernel
theorem d_la_law_675 : decode code 675 = .ok (.iload 6, 2) := by decide +kernel
theorem d_la_law_677 : decode code 677 = .ok (.ifCond .eq 7, 3) := by decide +kernel
theorem d_la_law_680 : decode code 680 = .ok (.lconst 1, 1) := by decide +kernel
theorem d_la_law_681 : decode code 681 = .ok (.goto 4, 3) := by decide +kernel
theorem d_la_law_684 : decode code 684 = .ok (.lconst 0, 1) := by decide +kernel
theorem d_la_law_685 : decode code 685 = .ok (.lcmp, 1) := by decide +kernel
theorem d_la_law_686 : decode code 686 = .ok (.ifCond .eq 5, 3) := by decide +kernel
theorem d_la_law_689 : decode code 689 = .ok (.iconst 0, 1) := by decide +kernel
theorem d_la_law_690 : decode code 690 = .ok (.ireturn, 1) := by decide +kernel
theorem d_la_law_691 : decode code 691 = .ok (.goto 480, 3) := by decide +kernel
theorem d_la_law_694 : decode code 694 = .ok (.aload_n 1, 1) := by decide +kernel
theorem d_la_law_695 : decode code 695 = .ok (.invokevirtual 121, 3) := by decide +kernel
theorem d_la_law_698 : decode code 698 = .ok (.aload_n 2, 1) := by decide +kernel
theorem d_la_law_699 : decode code 699 = .ok (.invokevirtual 124, 3) := by decide +kernel
theorem d_la_law_702 : decode code 702 = .ok (.if_icmp .eq 469, 3) := by decide +kernel
theorem d_la_law_705 : decode code 705 = .ok (.iconst 0, 1) := by decide +kernel
theorem d_la_law_706 : decode code 706 = .ok (.ireturn, 1) := by decide +kernel
theorem d_la_law_707 : decode code 707 = .ok (.aload_n 1, 1) := by decide +kernel
theorem d_la_law_708 : decode code 708 = .ok (.aload_n 0, 1) := by decide +kernel
theorem d_la_law_709 : decode code 709 = .ok (.iload 4, 2) := by decide +kernel
theorem d_la_law_711 : decode code 711 = .ok (.iconst 1, 1) := by decide +kernel
theorem d_la_law_712 : decode code 712 = .ok (.iadd, 1) := by decide +kernel
theorem d_la_law_713 : decode code 713 = .ok (.iaload, 1) := by decide +kernel
theorem d_la_law_714 : decode code 714 = .ok (.aload_n 3, 1) := by decide +kernel
theorem d_la_law_715 : decode code 715 = .ok (.invokestatic 125, 3) := by decide +kernel
theorem d_la_law_718 : decode code 718 = .ok (.istore 5, 2) := by decide +kernel
theorem d_la_law_720 : decode code 720 = .ok (.aload_n 2, 1) := by decide +kernel
theorem d_la_law_721 : decode code 721 = .ok (.aload_n 0, 1) := by decide +kernel
theorem d_la_law_722 : decode code 722 = .ok (.iload 4, 2) := by decide +kernel
theorem d_la_law_724 : decode code 724 = .ok (.iconst 1, 1) := by decide +kernel
theorem d_la_law_725 : decode code 725 = .ok (.iadd, 1) := by decide +kernel
theorem d_la_law_726 : decode code 726 = .ok (.iaload, 1) := by decide +kernel
theorem d_la_law_727 : decode code 727 = .ok (.invokevirtual 127, 3) := by decide +kernel
theorem d_la_law_730 : decode code 730 = .ok (.istore 6, 2) := by decide +kernel
theorem d_la_law_732 : decode code 732 = .ok (.aload_n 2, 1) := by decide +kernel
theorem d_la_law_733 : decode code 733 = .ok (.invokevirtual 87, 3) := by decide +kernel
theorem d_la_law_736 : decode code 736 = .ok (.iload 5, 2) := by decide +kernel
theorem d_la_law_738 : decode code 738 = .ok (.if_icmp .eq 5, 3) := by decide +kernel
theorem d_la_law_741 : decode code 741 = .ok (.iconst 0, 1) := by decide +kernel
theorem d_la_law_742 : decode code 742 = .ok (.ireturn, 1) := by decide +kernel
theorem d_la_law_743 : decode code 743 = .ok (.iload 5, 2) := by decide +kernel
theorem d_la_law_745 : decode code 745 = .ok (.ifCond .ne 15, 3) := by decide +kernel
theorem d_la_law_748 : decode code 748 = .ok (.aload_n 3, 1) := by decide +kernel
theorem d_la_law_749 : decode code 749 = .ok (.iconst 0, 1) := by decide +kernel
theorem d_la_law_750 : decode code 750 = .ok (.laload, 1) := by decide +kernel
theorem d_la_law_751 : decode code 751 = .ok (.iload 6, 2) := by decide +kernel
theorem d_la_law_753 : decode code 753 = .ok (.i2l, 1) := by decide +kernel
theorem d_la_law_754 : decode code 754 = .ok (.lcmp, 1) := by decide +kernel
theorem d_la_law_755 : decode code 755 = .ok (.ifCond .eq 5, 3) := by decide +kernel
theorem d_la_law_758 : decode code 758 = .ok (.iconst 0, 1) := by decide +kernel
theorem d_la_law_759 : decode code 759 = .ok (.ireturn, 1) := by decide +kernel
theorem d_la_law_760 : decode code 760 = .ok (.goto 411, 3) := by decide +kernel
theorem d_la_law_763 : decode code 763 = .ok (.aload_n 1, 1) := by decide +kernel
theorem d_la_law_764 : decode code 764 = .ok (.aload_n 0, 1) := by decide +kernel
theorem d_la_law_765 : decode code 765 = .ok (.iload 4, 2) := by decide +kernel
theorem d_la_law_767 : decode code 767 = .ok (.iconst 1, 1) := by decide +kernel
theorem d_la_law_768 : decode code 768 = .ok (.iadd, 1) := by decide +kernel
theorem d_la_law_769 : decode code 769 = .ok (.iaload, 1) := by decide +kernel
theorem d_la_law_770 : decode code 770 = .ok (.aload_n 0, 1) := by decide +kernel
theorem d_la_law_771 : decode code 771 = .ok (.iload 4, 2) := by decide +kernel
theorem d_la_law_773 : decode code 773 = .ok (.iconst 2, 1) := by decide +kernel
theorem d_la_law_774 : decode code 774 = .ok (.iadd, 1) := by decide +kernel
theorem d_la_law_775 : decode code 775 = .ok (.iaload, 1) := by decide +kernel
theorem d_la_law_776 : decode code 776 = .ok (.aload_n 0, 1) := by decide +kernel
theorem d_la_law_777 : decode code 777 = .ok (.iload 4, 2) := by decide +kernel
theorem d_la_law_779 : decode code 779 = .ok (.iconst 3, 1) := by decide +kernel
theorem d_la_law_780 : decode code 780 = .ok (.iadd, 1) := by decide +kernel
theorem d_la_law_781 : decode code 781 = .ok (.iaload, 1) := by decide +kernel
theorem d_la_law_782 : decode code 782 = .ok (.aload_n 3, 1) := by decide +kernel
theorem d_la_law_783 : decode code 783 = .ok (.invokestatic 128, 3) := by decide +kernel
theorem d_la_law_786 : decode code 786 = .ok (.istore 5, 2) := by decide +kernel
theorem d_la_law_788 : decode code 788 = .ok (.aload_n 2, 1) := by decide +kernel
theorem d_la_law_789 : decode code 789 = .ok (.aload_n 0, 1) := by decide +kernel
