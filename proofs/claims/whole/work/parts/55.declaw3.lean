theorem d_law_585 : decode code 585 = .ok (.aload_n 3, 1) := by decide +kernel
theorem d_law_586 : decode code 586 = .ok (.iconst 0, 1) := by decide +kernel
theorem d_law_587 : decode code 587 = .ok (.laload, 1) := by decide +kernel
theorem d_law_588 : decode code 588 = .ok (.iload 6, 2) := by decide +kernel
theorem d_law_590 : decode code 590 = .ok (.ifCond .eq 7, 3) := by decide +kernel
theorem d_law_593 : decode code 593 = .ok (.lconst 1, 1) := by decide +kernel
theorem d_law_594 : decode code 594 = .ok (.goto 4, 3) := by decide +kernel
theorem d_law_597 : decode code 597 = .ok (.lconst 0, 1) := by decide +kernel
theorem d_law_598 : decode code 598 = .ok (.lcmp, 1) := by decide +kernel
theorem d_law_599 : decode code 599 = .ok (.ifCond .eq 5, 3) := by decide +kernel
theorem d_law_602 : decode code 602 = .ok (.iconst 0, 1) := by decide +kernel
theorem d_law_603 : decode code 603 = .ok (.ireturn, 1) := by decide +kernel
theorem d_law_604 : decode code 604 = .ok (.goto 454, 3) := by decide +kernel
theorem d_law_607 : decode code 607 = .ok (.aload_n 1, 1) := by decide +kernel
theorem d_law_608 : decode code 608 = .ok (.aload_n 0, 1) := by decide +kernel
theorem d_law_609 : decode code 609 = .ok (.iload 4, 2) := by decide +kernel
theorem d_law_611 : decode code 611 = .ok (.iconst 1, 1) := by decide +kernel
theorem d_law_612 : decode code 612 = .ok (.iadd, 1) := by decide +kernel
theorem d_law_613 : decode code 613 = .ok (.iaload, 1) := by decide +kernel
theorem d_law_614 : decode code 614 = .ok (.aload_n 0, 1) := by decide +kernel
theorem d_law_615 : decode code 615 = .ok (.iload 4, 2) := by decide +kernel
theorem d_law_617 : decode code 617 = .ok (.iconst 2, 1) := by decide +kernel
theorem d_law_618 : decode code 618 = .ok (.iadd, 1) := by decide +kernel
theorem d_law_619 : decode code 619 = .ok (.iaload, 1) := by decide +kernel
theorem d_law_620 : decode code 620 = .ok (.aload_n 0, 1) := by decide +kernel
theorem d_law_621 : decode code 621 = .ok (.iload 4, 2) := by decide +kernel
theorem d_law_623 : decode code 623 = .ok (.iconst 3, 1) := by decide +kernel
theorem d_law_624 : decode code 624 = .ok (.iadd, 1) := by decide +kernel
theorem d_law_625 : decode code 625 = .ok (.iaload, 1) := by decide +kernel
theorem d_law_626 : decode code 626 = .ok (.aload_n 3, 1) := by decide +kernel
theorem d_law_627 : decode code 627 = .ok (.invokestatic 103, 3) := by decide +kernel
theorem d_law_630 : decode code 630 = .ok (.istore 5, 2) := by decide +kernel
theorem d_law_632 : decode code 632 = .ok (.aload_n 2, 1) := by decide +kernel
theorem d_law_633 : decode code 633 = .ok (.aload_n 0, 1) := by decide +kernel
theorem d_law_634 : decode code 634 = .ok (.iload 4, 2) := by decide +kernel
theorem d_law_636 : decode code 636 = .ok (.iconst 1, 1) := by decide +kernel
theorem d_law_637 : decode code 637 = .ok (.iadd, 1) := by decide +kernel
theorem d_law_638 : decode code 638 = .ok (.iaload, 1) := by decide +kernel
theorem d_law_639 : decode code 639 = .ok (.aload_n 0, 1) := by decide +kernel
theorem d_law_640 : decode code 640 = .ok (.iload 4, 2) := by decide +kernel
theorem d_law_642 : decode code 642 = .ok (.iconst 2, 1) := by decide +kernel
theorem d_law_643 : decode code 643 = .ok (.iadd, 1) := by decide +kernel
theorem d_law_644 : decode code 644 = .ok (.iaload, 1) := by decide +kernel
theorem d_law_645 : decode code 645 = .ok (.aload_n 0, 1) := by decide +kernel
theorem d_law_646 : decode code 646 = .ok (.iload 4, 2) := by decide +kernel
theorem d_law_648 : decode code 648 = .ok (.iconst 3, 1) := by decide +kernel
theorem d_law_649 : decode code 649 = .ok (.iadd, 1) := by decide +kernel
theorem d_law_650 : decode code 650 = .ok (.iaload, 1) := by decide +kernel
theorem d_law_651 : decode code 651 = .ok (.invokevirtual 106, 3) := by decide +kernel
theorem d_law_654 : decode code 654 = .ok (.istore 6, 2) := by decide +kernel
theorem d_law_656 : decode code 656 = .ok (.aload_n 2, 1) := by decide +kernel
theorem d_law_657 : decode code 657 = .ok (.invokevirtual 78, 3) := by decide +kernel
theorem d_law_660 : decode code 660 = .ok (.iload 5, 2) := by decide +kernel
theorem d_law_662 : decode code 662 = .ok (.if_icmp .eq 5, 3) := by decide +kernel
theorem d_law_665 : decode code 665 = .ok (.iconst 0, 1) := by decide +kernel
theorem d_law_666 : decode code 666 = .ok (.ireturn, 1) := by decide +kernel
theorem d_law_667 : decode code 667 = .ok (.iload 5, 2) := by decide +kernel
theorem d_law_669 : decode code 669 = .ok (.ifCond .ne 22, 3) := by decide +kernel
theorem d_law_672 : decode code 672 = .ok (.aload_n 3, 1) := by decide +kernel
theorem d_law_673 : decode code 673 = .ok (.iconst 0, 1) := by decide +kernel
theorem d_law_674 : decode code 674 = .ok (.laload, 1) := by decide +kernel
theorem d_law_675 : decode code 675 = .ok (.iload 6, 2) := by decide +kernel
theorem d_law_677 : decode code 677 = .ok (.ifCond .eq 7, 3) := by decide +kernel
theorem d_law_680 : decode code 680 = .ok (.lconst 1, 1) := by decide +kernel
theorem d_law_681 : decode code 681 = .ok (.goto 4, 3) := by decide +kernel
theorem d_law_684 : decode code 684 = .ok (.lconst 0, 1) := by decide +kernel
theorem d_law_685 : decode code 685 = .ok (.lcmp, 1) := by decide +kernel
theorem d_law_686 : decode code 686 = .ok (.ifCond .eq 5, 3) := by decide +kernel
theorem d_law_689 : decode code 689 = .ok (.iconst 0, 1) := by decide +kernel
theorem d_law_690 : decode code 690 = .ok (.ireturn, 1) := by decide +kernel
theorem d_law_691 : decode code 691 = .ok (.goto 367, 3) := by decide +kernel
theorem d_law_694 : decode code 694 = .ok (.aload_n 1, 1) := by decide +kernel
theorem d_law_695 : decode code 695 = .ok (.aload_n 0, 1) := by decide +kernel
theorem d_law_696 : decode code 696 = .ok (.iload 4, 2) := by decide +kernel
theorem d_law_698 : decode code 698 = .ok (.iconst 1, 1) := by decide +kernel
theorem d_law_699 : decode code 699 = .ok (.iadd, 1) := by decide +kernel
theorem d_law_700 : decode code 700 = .ok (.iaload, 1) := by decide +kernel
theorem d_law_701 : decode code 701 = .ok (.aload_n 3, 1) := by decide +kernel
theorem d_law_702 : decode code 702 = .ok (.invokestatic 107, 3) := by decide +kernel
theorem d_law_705 : decode code 705 = .ok (.istore 5, 2) := by decide +kernel
theorem d_law_707 : decode code 707 = .ok (.aload_n 2, 1) := by decide +kernel
theorem d_law_708 : decode code 708 = .ok (.aload_n 0, 1) := by decide +kernel
theorem d_law_709 : decode code 709 = .ok (.iload 4, 2) := by decide +kernel
theorem d_law_711 : decode code 711 = .ok (.iconst 1, 1) := by decide +kernel
theorem d_law_712 : decode code 712 = .ok (.iadd, 1) := by decide +kernel
theorem d_law_713 : decode code 713 = .ok (.iaload, 1) := by decide +kernel
theorem d_law_714 : decode code 714 = .ok (.invokevirtual 109, 3) := by decide +kernel
theorem d_law_717 : decode code 717 = .ok (.istore 6, 2) := by decide +kernel
theorem d_law_719 : decode code 719 = .ok (.aload_n 2, 1) := by decide +kernel
theorem d_law_720 : decode code 720 = .ok (.invokevirtual 78, 3) := by decide +kernel
theorem d_law_723 : decode code 723 = .ok (.iload 5, 2) := by decide +kernel
theorem d_law_725 : decode code 725 = .ok (.if_icmp .eq 5, 3) := by decide +kernel
theorem d_law_728 : decode code 728 = .ok (.iconst 0, 1) := by decide +kernel
theorem d_law_729 : decode code 729 = .ok (.ireturn, 1) := by decide +kernel
theorem d_law_730 : decode code 730 = .ok (.iload 5, 2) := by decide +kernel
theorem d_law_732 : decode code 732 = .ok (.ifCond .ne 22, 3) := by decide +kernel
theorem d_law_735 : decode code 735 = .ok (.aload_n 3, 1) := by decide +kernel
theorem d_law_736 : decode code 736 = .ok (.iconst 0, 1) := by decide +kernel
theorem d_law_737 : decode code 737 = .ok (.laload, 1) := by decide +kernel
theorem d_law_738 : decode code 738 = .ok (.iload 6, 2) := by decide +kernel
theorem d_law_740 : decode code 740 = .ok (.ifCond .eq 7, 3) := by decide +kernel
theorem d_law_743 : decode code 743 = .ok (.lconst 1, 1) := by decide +kernel
theorem d_law_744 : decode code 744 = .ok (.goto 4, 3) := by decide +kernel
theorem d_law_747 : decode code 747 = .ok (.lconst 0, 1) := by decide +kernel
theorem d_law_748 : decode code 748 = .ok (.lcmp, 1) := by decide +kernel
theorem d_law_749 : decode code 749 = .ok (.ifCond .eq 5, 3) := by decide +kernel
theorem d_law_752 : decode code 752 = .ok (.iconst 0, 1) := by decide +kernel
theorem d_law_753 : decode code 753 = .ok (.ireturn, 1) := by decide +kernel
theorem d_law_754 : decode code 754 = .ok (.goto 304, 3) := by decide +kernel
theorem d_law_757 : decode code 757 = .ok (.aload_n 1, 1) := by decide +kernel
theorem d_law_758 : decode code 758 = .ok (.aload_n 0, 1) := by decide +kernel
theorem d_law_759 : decode code 759 = .ok (.iload 4, 2) := by decide +kernel
theorem d_law_761 : decode code 761 = .ok (.iconst 1, 1) := by decide +kernel
theorem d_law_762 : decode code 762 = .ok (.iadd, 1) := by decide +kernel
theorem d_law_763 : decode code 763 = .ok (.iaload, 1) := by decide +kernel
theorem d_law_764 : decode code 764 = .ok (.aload_n 0, 1) := by decide +kernel
theorem d_law_765 : decode code 765 = .ok (.iload 4, 2) := by decide +kernel
theorem d_law_767 : decode code 767 = .ok (.iconst 2, 1) := by decide +kernel
theorem d_law_768 : decode code 768 = .ok (.iadd, 1) := by decide +kernel
theorem d_law_769 : decode code 769 = .ok (.iaload, 1) := by decide +kernel
theorem d_law_770 : decode code 770 = .ok (.aload_n 0, 1) := by decide +kernel
theorem d_law_771 : decode code 771 = .ok (.iload 4, 2) := by decide +kernel
theorem d_law_773 : decode code 773 = .ok (.iconst 3, 1) := by decide +kernel
theorem d_law_774 : decode code 774 = .ok (.iadd, 1) := by decide +kernel
theorem d_law_775 : decode code 775 = .ok (.iaload, 1) := by decide +kernel
theorem d_law_776 : decode code 776 = .ok (.aload_n 3, 1) := by decide +kernel
theorem d_law_777 : decode code 777 = .ok (.invokestatic 110, 3) := by decide +kernel
theorem d_law_780 : decode code 780 = .ok (.istore 5, 2) := by decide +kernel
theorem d_law_782 : decode code 782 = .ok (.aload_n 2, 1) := by decide +kernel
theorem d_law_783 : decode code 783 = .ok (.aload_n 0, 1) := by decide +kernel
theorem d_law_784 : decode code 784 = .ok (.iload 4, 2) := by decide +kernel
theorem d_law_786 : decode code 786 = .ok (.iconst 1, 1) := by decide +kernel
theorem d_law_787 : decode code 787 = .ok (.iadd, 1) := by decide +kernel
theorem d_law_788 : decode code 788 = .ok (.iaload, 1) := by decide +kernel
theorem d_law_789 : decode code 789 = .ok (.aload_n 0, 1) := by decide +kernel
theorem d_law_790 : decode code 790 = .ok (.iload 4, 2) := by decide +kernel
theorem d_law_792 : decode code 792 = .ok (.iconst 2, 1) := by decide +kernel
theorem d_law_793 : decode code 793 = .ok (.iadd, 1) := by decide +kernel
theorem d_law_794 : decode code 794 = .ok (.iaload, 1) := by decide +kernel
theorem d_law_795 : decode code 795 = .ok (.aload_n 0, 1) := by decide +kernel
theorem d_law_796 : decode code 796 = .ok (.iload 4, 2) := by decide +kernel
theorem d_law_798 : decode code 798 = .ok (.iconst 3, 1) := by decide +kernel
theorem d_law_799 : decode code 799 = .ok (.iadd, 1) := by decide +kernel
theorem d_law_800 : decode code 800 = .ok (.iaload, 1) := by decide +kernel
theorem d_law_801 : decode code 801 = .ok (.invokevirtual 112, 3) := by decide +kernel
theorem d_law_804 : decode code 804 = .ok (.istore 6, 2) := by decide +kernel
theorem d_law_806 : decode code 806 = .ok (.aload_n 2, 1) := by decide +kernel
theorem d_law_807 : decode code 807 = .ok (.invokevirtual 78, 3) := by decide +kernel
theorem d_law_810 : decode code 810 = .ok (.iload 5, 2) := by decide +kernel
theorem d_law_812 : decode code 812 = .ok (.if_icmp .eq 5, 3) := by decide +kernel
theorem d_law_815 : decode code 815 = .ok (.iconst 0, 1) := by decide +kernel
theorem d_law_816 : decode code 816 = .ok (.ireturn, 1) := by decide +kernel
theorem d_law_817 : decode code 817 = .ok (.iload 5, 2) := by decide +kernel
theorem d_law_819 : decode code 819 = .ok (.ifCond .ne 22, 3) := by decide +kernel
theorem d_law_822 : decode code 822 = .ok (.aload_n 3, 1) := by decide +kernel
theorem d_law_823 : decode code 823 = .ok (.iconst 0, 1) := by decide +kernel
theorem d_law_824 : decode code 824 = .ok (.laload, 1) := by decide +kernel
theorem d_law_825 : decode code 825 = .ok (.iload 6, 2) := by decide +kernel
theorem d_law_827 : decode code 827 = .ok (.ifCond .eq 7, 3) := by decide +kernel
theorem d_law_830 : decode code 830 = .ok (.lconst 1, 1) := by decide +kernel
