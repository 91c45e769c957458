theorem dLW_law_556 : decode cLW_law 556 = .ok (.aload_n 2, 1) := by decide +kernel
theorem dLW_law_557 : decode cLW_law 557 = .ok (.invokevirtual 84, 3) := by decide +kernel
theorem dLW_law_560 : decode cLW_law 560 = .ok (.if_icmp .eq 431, 3) := by decide +kernel
theorem dLW_law_563 : decode cLW_law 563 = .ok (.iconst 0, 1) := by decide +kernel
theorem dLW_law_564 : decode cLW_law 564 = .ok (.ireturn, 1) := by decide +kernel
theorem dLW_law_565 : decode cLW_law 565 = .ok (.aload_n 1, 1) := by decide +kernel
theorem dLW_law_566 : decode cLW_law 566 = .ok (.aload_n 0, 1) := by decide +kernel
theorem dLW_law_567 : decode cLW_law 567 = .ok (.iload 4, 2) := by decide +kernel
theorem dLW_law_569 : decode cLW_law 569 = .ok (.iconst 1, 1) := by decide +kernel
theorem dLW_law_570 : decode cLW_law 570 = .ok (.iadd, 1) := by decide +kernel
theorem dLW_law_571 : decode cLW_law 571 = .ok (.iaload, 1) := by decide +kernel
theorem dLW_law_572 : decode cLW_law 572 = .ok (.aload_n 0, 1) := by decide +kernel
theorem dLW_law_573 : decode cLW_law 573 = .ok (.iload 4, 2) := by decide +kernel
theorem dLW_law_575 : decode cLW_law 575 = .ok (.iconst 2, 1) := by decide +kernel
theorem dLW_law_576 : decode cLW_law 576 = .ok (.iadd, 1) := by decide +kernel
theorem dLW_law_577 : decode cLW_law 577 = .ok (.iaload, 1) := by decide +kernel
theorem dLW_law_578 : decode cLW_law 578 = .ok (.aload_n 3, 1) := by decide +kernel
theorem dLW_law_579 : decode cLW_law 579 = .ok (.invokestatic 85, 3) := by decide +kernel
theorem dLW_law_582 : decode cLW_law 582 = .ok (.istore 5, 2) := by decide +kernel
theorem dLW_law_584 : decode cLW_law 584 = .ok (.aload_n 2, 1) := by decide +kernel
theorem dLW_law_585 : decode cLW_law 585 = .ok (.aload_n 0, 1) := by decide +kernel
theorem dLW_law_586 : decode cLW_law 586 = .ok (.iload 4, 2) := by decide +kernel
theorem dLW_law_588 : decode cLW_law 588 = .ok (.iconst 1, 1) := by decide +kernel
theorem dLW_law_589 : decode cLW_law 589 = .ok (.iadd, 1) := by decide +kernel
theorem dLW_law_590 : decode cLW_law 590 = .ok (.iaload, 1) := by decide +kernel
theorem dLW_law_591 : decode cLW_law 591 = .ok (.aload_n 0, 1) := by decide +kernel
theorem dLW_law_592 : decode cLW_law 592 = .ok (.iload 4, 2) := by decide +kernel
theorem dLW_law_594 : decode cLW_law 594 = .ok (.iconst 2, 1) := by decide +kernel
theorem dLW_law_595 : decode cLW_law 595 = .ok (.iadd, 1) := by decide +kernel
theorem dLW_law_596 : decode cLW_law 596 = .ok (.iaload, 1) := by decide +kernel
theorem dLW_law_597 : decode cLW_law 597 = .ok (.invokevirtual 88, 3) := by decide +kernel
theorem dLW_law_600 : decode cLW_law 600 = .ok (.istore 6, 2) := by decide +kernel
theorem dLW_law_602 : decode cLW_law 602 = .ok (.aload_n 2, 1) := by decide +kernel
theorem dLW_law_603 : decode cLW_law 603 = .ok (.invokevirtual 64, 3) := by decide +kernel
theorem dLW_law_606 : decode cLW_law 606 = .ok (.iload 5, 2) := by decide +kernel
theorem dLW_law_608 : decode cLW_law 608 = .ok (.if_icmp .eq 5, 3) := by decide +kernel
theorem dLW_law_611 : decode cLW_law 611 = .ok (.iconst 0, 1) := by decide +kernel
theorem dLW_law_612 : decode cLW_law 612 = .ok (.ireturn, 1) := by decide +kernel
theorem dLW_law_613 : decode cLW_law 613 = .ok (.iload 5, 2) := by decide +kernel
theorem dLW_law_615 : decode cLW_law 615 = .ok (.ifCond .ne 15, 3) := by decide +kernel
theorem dLW_law_618 : decode cLW_law 618 = .ok (.aload_n 3, 1) := by decide +kernel
theorem dLW_law_619 : decode cLW_law 619 = .ok (.iconst 0, 1) := by decide +kernel
theorem dLW_law_620 : decode cLW_law 620 = .ok (.laload, 1) := by decide +kernel
theorem dLW_law_621 : decode cLW_law 621 = .ok (.iload 6, 2) := by decide +kernel
theorem dLW_law_623 : decode cLW_law 623 = .ok (.i2l, 1) := by decide +kernel
theorem dLW_law_624 : decode cLW_law 624 = .ok (.lcmp, 1) := by decide +kernel
theorem dLW_law_625 : decode cLW_law 625 = .ok (.ifCond .eq 5, 3) := by decide +kernel
theorem dLW_law_628 : decode cLW_law 628 = .ok (.iconst 0, 1) := by decide +kernel
theorem dLW_law_629 : decode cLW_law 629 = .ok (.ireturn, 1) := by decide +kernel
theorem dLW_law_630 : decode cLW_law 630 = .ok (.goto 361, 3) := by decide +kernel
theorem dLW_law_633 : decode cLW_law 633 = .ok (.aload_n 1, 1) := by decide +kernel
theorem dLW_law_634 : decode cLW_law 634 = .ok (.aload_n 0, 1) := by decide +kernel
theorem dLW_law_635 : decode cLW_law 635 = .ok (.iload 4, 2) := by decide +kernel
theorem dLW_law_637 : decode cLW_law 637 = .ok (.iconst 1, 1) := by decide +kernel
theorem dLW_law_638 : decode cLW_law 638 = .ok (.iadd, 1) := by decide +kernel
theorem dLW_law_639 : decode cLW_law 639 = .ok (.iaload, 1) := by decide +kernel
theorem dLW_law_640 : decode cLW_law 640 = .ok (.aload_n 3, 1) := by decide +kernel
theorem dLW_law_641 : decode cLW_law 641 = .ok (.invokestatic 89, 3) := by decide +kernel
theorem dLW_law_644 : decode cLW_law 644 = .ok (.istore 5, 2) := by decide +kernel
theorem dLW_law_646 : decode cLW_law 646 = .ok (.aload_n 2, 1) := by decide +kernel
theorem dLW_law_647 : decode cLW_law 647 = .ok (.aload_n 0, 1) := by decide +kernel
theorem dLW_law_648 : decode cLW_law 648 = .ok (.iload 4, 2) := by decide +kernel
theorem dLW_law_650 : decode cLW_law 650 = .ok (.iconst 1, 1) := by decide +kernel
theorem dLW_law_651 : decode cLW_law 651 = .ok (.iadd, 1) := by decide +kernel
theorem dLW_law_652 : decode cLW_law 652 = .ok (.iaload, 1) := by decide +kernel
theorem dLW_law_653 : decode cLW_law 653 = .ok (.invokevirtual 92, 3) := by decide +kernel
theorem dLW_law_656 : decode cLW_law 656 = .ok (.istore 6, 2) := by decide +kernel
theorem dLW_law_658 : decode cLW_law 658 = .ok (.aload_n 2, 1) := by decide +kernel
theorem dLW_law_659 : decode cLW_law 659 = .ok (.invokevirtual 64, 3) := by decide +kernel
theorem dLW_law_662 : decode cLW_law 662 = .ok (.iload 5, 2) := by decide +kernel
theorem dLW_law_664 : decode cLW_law 664 = .ok (.if_icmp .eq 5, 3) := by decide +kernel
theorem dLW_law_667 : decode cLW_law 667 = .ok (.iconst 0, 1) := by decide +kernel
theorem dLW_law_668 : decode cLW_law 668 = .ok (.ireturn, 1) := by decide +kernel
theorem dLW_law_669 : decode cLW_law 669 = .ok (.iload 5, 2) := by decide +kernel
theorem dLW_law_671 : decode cLW_law 671 = .ok (.ifCond .ne 15, 3) := by decide +kernel
theorem dLW_law_674 : decode cLW_law 674 = .ok (.aload_n 3, 1) := by decide +kernel
theorem dLW_law_675 : decode cLW_law 675 = .ok (.iconst 0, 1) := by decide +kernel
theorem dLW_law_676 : decode cLW_law 676 = .ok (.laload, 1) := by decide +kernel
theorem dLW_law_677 : decode cLW_law 677 = .ok (.iload 6, 2) := by decide +kernel
theorem dLW_law_679 : decode cLW_law 679 = .ok (.i2l, 1) := by decide +kernel
theorem dLW_law_680 : decode cLW_law 680 = .ok (.lcmp, 1) := by decide +kernel
theorem dLW_law_681 : decode cLW_law 681 = .ok (.ifCond .eq 5, 3) := by decide +kernel
theorem dLW_law_684 : decode cLW_law 684 = .ok (.iconst 0, 1) := by decide +kernel
theorem dLW_law_685 : decode cLW_law 685 = .ok (.ireturn, 1) := by decide +kernel
theorem dLW_law_686 : decode cLW_law 686 = .ok (.goto 305, 3) := by decide +kernel
theorem dLW_law_689 : decode cLW_law 689 = .ok (.aload_n 1, 1) := by decide +kernel
theorem dLW_law_690 : decode cLW_law 690 = .ok (.aload_n 0, 1) := by decide +kernel
theorem dLW_law_691 : decode cLW_law 691 = .ok (.iload 4, 2) := by decide +kernel
theorem dLW_law_693 : decode cLW_law 693 = .ok (.iconst 1, 1) := by decide +kernel
theorem dLW_law_694 : decode cLW_law 694 = .ok (.iadd, 1) := by decide +kernel
theorem dLW_law_695 : decode cLW_law 695 = .ok (.iaload, 1) := by decide +kernel
theorem dLW_law_696 : decode cLW_law 696 = .ok (.aload_n 0, 1) := by decide +kernel
theorem dLW_law_697 : decode cLW_law 697 = .ok (.iload 4, 2) := by decide +kernel
theorem dLW_law_699 : decode cLW_law 699 = .ok (.iconst 2, 1) := by decide +kernel
theorem dLW_law_700 : decode cLW_law 700 = .ok (.iadd, 1) := by decide +kernel
theorem dLW_law_701 : decode cLW_law 701 = .ok (.iaload, 1) := by decide +kernel
theorem dLW_law_702 : decode cLW_law 702 = .ok (.aload_n 3, 1) := by decide +kernel
theorem dLW_law_703 : decode cLW_law 703 = .ok (.invokestatic 93, 3) := by decide +kernel
theorem dLW_law_706 : decode cLW_law 706 = .ok (.istore 5, 2) := by decide +kernel
theorem dLW_law_708 : decode cLW_law 708 = .ok (.aload_n 2, 1) := by decide +kernel
theorem dLW_law_709 : decode cLW_law 709 = .ok (.aload_n 0, 1) := by decide +kernel
theorem dLW_law_710 : decode cLW_law 710 = .ok (.iload 4, 2) := by decide +kernel
theorem dLW_law_712 : decode cLW_law 712 = .ok (.iconst 1, 1) := by decide +kernel
theorem dLW_law_713 : decode cLW_law 713 = .ok (.iadd, 1) := by decide +kernel
theorem dLW_law_714 : decode cLW_law 714 = .ok (.iaload, 1) := by decide +kernel
theorem dLW_law_715 : decode cLW_law 715 = .ok (.aload_n 0, 1) := by decide +kernel
theorem dLW_law_716 : decode cLW_law 716 = .ok (.iload 4, 2) := by decide +kernel
theorem dLW_law_718 : decode cLW_law 718 = .ok (.iconst 2, 1) := by decide +kernel
theorem dLW_law_719 : decode cLW_law 719 = .ok (.iadd, 1) := by decide +kernel
theorem dLW_law_720 : decode cLW_law 720 = .ok (.iaload, 1) := by decide +kernel
theorem dLW_law_721 : decode cLW_law 721 = .ok (.invokevirtual 95, 3) := by decide +kernel
theorem dLW_law_724 : decode cLW_law 724 = .ok (.istore 6, 2) := by decide +kernel
theorem dLW_law_726 : decode cLW_law 726 = .ok (.aload_n 2, 1) := by decide +kernel
theorem dLW_law_727 : decode cLW_law 727 = .ok (.invokevirtual 64, 3) := by decide +kernel
theorem dLW_law_730 : decode cLW_law 730 = .ok (.iload 5, 2) := by decide +kernel
theorem dLW_law_732 : decode cLW_law 732 = .ok (.if_icmp .eq 5, 3) := by decide +kernel
theorem dLW_law_735 : decode cLW_law 735 = .ok (.iconst 0, 1) := by decide +kernel
theorem dLW_law_736 : decode cLW_law 736 = .ok (.ireturn, 1) := by decide +kernel
theorem dLW_law_737 : decode cLW_law 737 = .ok (.iload 5, 2) := by decide +kernel
theorem dLW_law_739 : decode cLW_law 739 = .ok (.ifCond .ne 15, 3) := by decide +kernel
theorem dLW_law_742 : decode cLW_law 742 = .ok (.aload_n 3, 1) := by decide +kernel
theorem dLW_law_743 : decode cLW_law 743 = .ok (.iconst 0, 1) := by decide +kernel
theorem dLW_law_744 : decode cLW_law 744 = .ok (.laload, 1) := by decide +kernel
theorem dLW_law_745 : decode cLW_law 745 = .ok (.iload 6, 2) := by decide +kernel
theorem dLW_law_747 : decode cLW_law 747 = .ok (.i2l, 1) := by decide +kernel
theorem dLW_law_748 : decode cLW_law 748 = .ok (.lcmp, 1) := by decide +kernel
theorem dLW_law_749 : decode cLW_law 749 = .ok (.ifCond .eq 5, 3) := by decide +kernel
theorem dLW_law_752 : decode cLW_law 752 = .ok (.iconst 0, 1) := by decide +kernel
theorem dLW_law_753 : decode cLW_law 753 = .ok (.ireturn, 1) := by decide +kernel
theorem dLW_law_754 : decode cLW_law 754 = .ok (.goto 237, 3) := by decide +kernel
theorem dLW_law_757 : decode cLW_law 757 = .ok (.aload_n 1, 1) := by decide +kernel
theorem dLW_law_758 : decode cLW_law 758 = .ok (.aload_n 0, 1) := by decide +kernel
theorem dLW_law_759 : decode cLW_law 759 = .ok (.iload 4, 2) := by decide +kernel
theorem dLW_law_761 : decode cLW_law 761 = .ok (.iconst 1, 1) := by decide +kernel
theorem dLW_law_762 : decode cLW_law 762 = .ok (.iadd, 1) := by decide +kernel
theorem dLW_law_763 : decode cLW_law 763 = .ok (.iaload, 1) := by decide +kernel
theorem dLW_law_764 : decode cLW_law 764 = .ok (.aload_n 0, 1) := by decide +kernel
theorem dLW_law_765 : decode cLW_law 765 = .ok (.iload 4, 2) := by decide +kernel
theorem dLW_law_767 : decode cLW_law 767 = .ok (.iconst 2, 1) := by decide +kernel
theorem dLW_law_768 : decode cLW_law 768 = .ok (.iadd, 1) := by decide +kernel
theorem dLW_law_769 : decode cLW_law 769 = .ok (.iaload, 1) := by decide +kernel
theorem dLW_law_770 : decode cLW_law 770 = .ok (.aload_n 0, 1) := by decide +kernel
theorem dLW_law_771 : decode cLW_law 771 = .ok (.iload 4, 2) := by decide +kernel
theorem dLW_law_773 : decode cLW_law 773 = .ok (.iconst 3, 1) := by decide +kernel
theorem dLW_law_774 : decode cLW_law 774 = .ok (.iadd, 1) := by decide +kernel
theorem dLW_law_775 : decode cLW_law 775 = .ok (.iaload, 1) := by decide +kernel
theorem dLW_law_776 : decode cLW_law 776 = .ok (.aload_n 3, 1) := by decide +kernel
theorem dLW_law_777 : decode cLW_law 777 = .ok (.invokestatic 96, 3) := by decide +kernel
theorem dLW_law_780 : decode cLW_law 780 = .ok (.istore 5, 2) := by decide +kernel
theorem dLW_law_782 : decode cLW_law 782 = .ok (.aload_n 2, 1) := by decide +kernel
theorem dLW_law_783 : decode cLW_law 783 = .ok (.aload_n 0, 1) := by decide +kernel
theorem dLW_law_784 : decode cLW_law 784 = .ok (.iload 4, 2) := by decide +kernel
theorem dLW_law_786 : decode cLW_law 786 = .ok (.iconst 1, 1) := by decide +kernel
theorem dLW_law_787 : decode cLW_law 787 = .ok (.iadd, 1) := by decide +kernel
theorem dLW_law_788 : decode cLW_law 788 = .ok (.iaload, 1) := by decide +kernel
theorem dLW_law_789 : decode cLW_law 789 = .ok (.aload_n 0, 1) := by decide +kernel
theorem dLW_law_790 : decode cLW_law 790 = .ok (.iload 4, 2) := by decide +kernel
theorem dLW_law_792 : decode cLW_law 792 = .ok (.iconst 2, 1) := by decide +kernel
theorem dLW_law_793 : decode cLW_law 793 = .ok (.iadd, 1) := by decide +kernel
theorem dLW_law_794 : decode cLW_law 794 = .ok (.iaload, 1) := by decide +kernel
theorem dLW_law_795 : decode cLW_law 795 = .ok (.aload_n 0, 1) := by decide +kernel
theorem dLW_law_796 : decode cLW_law 796 = .ok (.iload 4, 2) := by decide +kernel
theorem dLW_law_798 : decode cLW_law 798 = .ok (.iconst 3, 1) := by decide +kernel
theorem dLW_law_799 : decode cLW_law 799 = .ok (.iadd, 1) := by decide +kernel
theorem dLW_law_800 : decode cLW_law 800 = .ok (.iaload, 1) := by decide +kernel
theorem dLW_law_801 : decode cLW_law 801 = .ok (.invokevirtual 98, 3) := by decide +kernel
theorem dLW_law_804 : decode cLW_law 804 = .ok (.istore 6, 2) := by decide +kernel
theorem dLW_law_806 : decode cLW_law 806 = .ok (.aload_n 2, 1) := by decide +kernel
theorem dLW_law_807 : decode cLW_law 807 = .ok (.invokevirtual 64, 3) := by decide +kernel
theorem dLW_law_810 : decode cLW_law 810 = .ok (.iload 5, 2) := by decide +kernel
theorem dLW_law_812 : decode cLW_law 812 = .ok (.if_icmp .eq 5, 3) := by decide +kernel
theorem dLW_law_815 : decode cLW_law 815 = .ok (.iconst 0, 1) := by decide +kernel
theorem dLW_law_816 : decode cLW_law 816 = .ok (.ireturn, 1) := by decide +kernel
theorem dLW_law_817 : decode cLW_law 817 = .ok (.iload 5, 2) := by decide +kernel
theorem dLW_law_819 : decode cLW_law 819 = .ok (.ifCond .ne 15, 3) := by decide +kernel
theorem dLW_law_822 : decode cLW_law 822 = .ok (.aload_n 3, 1) := by decide +kernel
theorem dLW_law_823 : decode cLW_law 823 = .ok (.iconst 0, 1) := by decide +kernel
theorem dLW_law_824 : decode cLW_law 824 = .ok (.laload, 1) := by decide +kernel
theorem dLW_law_825 : decode cLW_law 825 = .ok (.iload 6, 2) := by decide +kernel
theorem dLW_law_827 : decode cLW_law 827 = .ok (.i2l, 1) := by decide +kernel
theorem dLW_law_828 : decode cLW_law 828 = .ok (.lcmp, 1) := by decide +kernel
theorem dLW_law_829 : decode cLW_law 829 = .ok (.ifCond .eq 5, 3) := by decide +kernel
theorem dLW_law_832 : decode cLW_law 832 = .ok (.iconst 0, 1) := by decide +kernel
theorem dLW_law_833 : decode cLW_law 833 = .ok (.ireturn, 1) := by decide +kernel
theorem dLW_law_834 : decode cLW_law 834 = .ok (.goto 157, 3) := by decide +kernel
theorem dLW_law_837 : decode cLW_law 837 = .ok (.aload_n 1, 1) := by decide +kernel
theorem dLW_law_838 : decode cLW_law 838 = .ok (.invokevirtual 99, 3) := by decide +kernel
theorem dLW_law_841 : decode cLW_law 841 = .ok (.aload_n 2, 1) := by decide +kernel
theorem dLW_law_842 : decode cLW_law 842 = .ok (.invokevirtual 102, 3) := by decide +kernel
theorem dLW_law_845 : decode cLW_law 845 = .ok (.if_icmp .eq 146, 3) := by decide +kernel
theorem dLW_law_848 : decode cLW_law 848 = .ok (.iconst 0, 1) := by decide +kernel
theorem dLW_law_849 : decode cLW_law 849 = .ok (.ireturn, 1) := by decide +kernel
theorem dLW_law_850 : decode cLW_law 850 = .ok (.aload_n 1, 1) := by decide +kernel
theorem dLW_law_851 : decode cLW_law 851 = .ok (.aload_n 0, 1) := by decide +kernel
theorem dLW_law_852 : decode cLW_law 852 = .ok (.iload 4, 2) := by decide +kernel
theorem dLW_law_854 : decode cLW_law 854 = .ok (.iconst 1, 1) := by decide +kernel
theorem dLW_law_855 : decode cLW_law 855 = .ok (.iadd, 1) := by decide +kernel
theorem dLW_law_856 : decode cLW_law 856 = .ok (.iaload, 1) := by decide +kernel
theorem dLW_law_857 : decode cLW_law 857 = .ok (.aload_n 0, 1) := by decide +kernel
theorem dLW_law_858 : decode cLW_law 858 = .ok (.iload 4, 2) := by decide +kernel
theorem dLW_law_860 : decode cLW_law 860 = .ok (.iconst 2, 1) := by decide +kernel
theorem dLW_law_861 : decode cLW_law 861 = .ok (.iadd, 1) := by decide +kernel
theorem dLW_law_862 : decode cLW_law 862 = .ok (.iaload, 1) := by decide +kernel
theorem dLW_law_863 : decode cLW_law 863 = .ok (.aload_n 0, 1) := by decide +kernel
theorem dLW_law_864 : decode cLW_law 864 = .ok (.iload 4, 2) := by decide +kernel
theorem dLW_law_866 : decode cLW_law 866 = .ok (.iconst 3, 1) := by decide +kernel
theorem dLW_law_867 : decode cLW_law 867 = .ok (.iadd, 1) := by decide +kernel
theorem dLW_law_868 : decode cLW_law 868 = .ok (.iaload, 1) := by decide +kernel
theorem dLW_law_869 : decode cLW_law 869 = .ok (.ifCond .eq 7, 3) := by decide +kernel
theorem dLW_law_872 : decode cLW_law 872 = .ok (.iconst 1, 1) := by decide +kernel
theorem dLW_law_873 : decode cLW_law 873 = .ok (.goto 4, 3) := by decide +kernel
theorem dLW_law_876 : decode cLW_law 876 = .ok (.iconst 0, 1) := by decide +kernel
theorem dLW_law_877 : decode cLW_law 877 = .ok (.aload_n 3, 1) := by decide +kernel
theorem dLW_law_878 : decode cLW_law 878 = .ok (.invokestatic 103, 3) := by decide +kernel
theorem dLW_law_881 : decode cLW_law 881 = .ok (.istore 5, 2) := by decide +kernel
theorem dLW_law_883 : decode cLW_law 883 = .ok (.aload_n 2, 1) := by decide +kernel
theorem dLW_law_884 : decode cLW_law 884 = .ok (.aload_n 0, 1) := by decide +kernel
theorem dLW_law_885 : decode cLW_law 885 = .ok (.iload 4, 2) := by decide +kernel
theorem dLW_law_887 : decode cLW_law 887 = .ok (.iconst 1, 1) := by decide +kernel
theorem dLW_law_888 : decode cLW_law 888 = .ok (.iadd, 1) := by decide +kernel
theorem dLW_law_889 : decode cLW_law 889 = .ok (.iaload, 1) := by decide +kernel
theorem dLW_law_890 : decode cLW_law 890 = .ok (.aload_n 0, 1) := by decide +kernel
theorem dLW_law_891 : decode cLW_law 891 = .ok (.iload 4, 2) := by decide +kernel
theorem dLW_law_893 : decode cLW_law 893 = .ok (.iconst 2, 1) := by decide +kernel
theorem dLW_law_894 : decode cLW_law 894 = .ok (.iadd, 1) := by decide +kernel
theorem dLW_law_895 : decode cLW_law 895 = .ok (.iaload, 1) := by decide +kernel
theorem dLW_law_896 : decode cLW_law 896 = .ok (.aload_n 0, 1) := by decide +kernel
theorem dLW_law_897 : decode cLW_law 897 = .ok (.iload 4, 2) := by decide +kernel
theorem dLW_law_899 : decode cLW_law 899 = .ok (.iconst 3, 1) := by decide +kernel
theorem dLW_law_900 : decode cLW_law 900 = .ok (.iadd, 1) := by decide +kernel
theorem dLW_law_901 : decode cLW_law 901 = .ok (.iaload, 1) := by decide +kernel
theorem dLW_law_902 : decode cLW_law 902 = .ok (.ifCond .eq 7, 3) := by decide +kernel
theorem dLW_law_905 : decode cLW_law 905 = .ok (.iconst 1, 1) := by decide +kernel
theorem dLW_law_906 : decode cLW_law 906 = .ok (.goto 4, 3) := by decide +kernel
theorem dLW_law_909 : decode cLW_law 909 = .ok (.iconst 0, 1) := by decide +kernel
theorem dLW_law_910 : decode cLW_law 910 = .ok (.invokevirtual 106, 3) := by decide +kernel
theorem dLW_law_913 : decode cLW_law 913 = .ok (.istore 6, 2) := by decide +kernel
theorem dLW_law_915 : decode cLW_law 915 = .ok (.aload_n 2, 1) := by decide +kernel
theorem dLW_law_916 : decode cLW_law 916 = .ok (.invokevirtual 64, 3) := by decide +kernel
theorem dLW_law_919 : decode cLW_law 919 = .ok (.iload 5, 2) := by decide +kernel
theorem dLW_law_921 : decode cLW_law 921 = .ok (.if_icmp .eq 5, 3) := by decide +kernel
theorem dLW_law_924 : decode cLW_law 924 = .ok (.iconst 0, 1) := by decide +kernel
theorem dLW_law_925 : decode cLW_law 925 = .ok (.ireturn, 1) := by decide +kernel
theorem dLW_law_926 : decode cLW_law 926 = .ok (.iload 5, 2) := by decide +kernel
theorem dLW_law_928 : decode cLW_law 928 = .ok (.ifCond .ne 22, 3) := by decide +kernel
theorem dLW_law_931 : decode cLW_law 931 = .ok (.aload_n 3, 1) := by decide +kernel
theorem dLW_law_932 : decode cLW_law 932 = .ok (.iconst 0, 1) := by decide +kernel
theorem dLW_law_933 : decode cLW_law 933 = .ok (.laload, 1) := by decide +kernel
theorem dLW_law_934 : decode cLW_law 934 = .ok (.iload 6, 2) := by decide +kernel
theorem dLW_law_936 : decode cLW_law 936 = .ok (.ifCond .eq 7, 3) := by decide +kernel
theorem dLW_law_939 : decode cLW_law 939 = .ok (.lconst 1, 1) := by decide +kernel
theorem dLW_law_940 : decode cLW_law 940 = .ok (.goto 4, 3) := by decide +kernel
theorem dLW_law_943 : decode cLW_law 943 = .ok (.lconst 0, 1) := by decide +kernel
theorem dLW_law_944 : decode cLW_law 944 = .ok (.lcmp, 1) := by decide +kernel
theorem dLW_law_945 : decode cLW_law 945 = .ok (.ifCond .eq 5, 3) := by decide +kernel
theorem dLW_law_948 : decode cLW_law 948 = .ok (.iconst 0, 1) := by decide +kernel
theorem dLW_law_949 : decode cLW_law 949 = .ok (.ireturn, 1) := by decide +kernel
theorem dLW_law_950 : decode cLW_law 950 = .ok (.goto 41, 3) := by decide +kernel
theorem dLW_law_953 : decode cLW_law 953 = .ok (.aload_n 1, 1) := by decide +kernel
theorem dLW_law_954 : decode cLW_law 954 = .ok (.invokevirtual 107, 3) := by decide +kernel
theorem dLW_law_957 : decode cLW_law 957 = .ok (.aload_n 2, 1) := by decide +kernel
theorem dLW_law_958 : decode cLW_law 958 = .ok (.invokevirtual 110, 3) := by decide +kernel
theorem dLW_law_961 : decode cLW_law 961 = .ok (.if_icmp .eq 30, 3) := by decide +kernel
theorem dLW_law_964 : decode cLW_law 964 = .ok (.iconst 0, 1) := by decide +kernel
theorem dLW_law_965 : decode cLW_law 965 = .ok (.ireturn, 1) := by decide +kernel
theorem dLW_law_966 : decode cLW_law 966 = .ok (.aload_n 1, 1) := by decide +kernel
theorem dLW_law_967 : decode cLW_law 967 = .ok (.aload_n 0, 1) := by decide +kernel
theorem dLW_law_968 : decode cLW_law 968 = .ok (.iload 4, 2) := by decide +kernel
theorem dLW_law_970 : decode cLW_law 970 = .ok (.iconst 1, 1) := by decide +kernel
theorem dLW_law_971 : decode cLW_law 971 = .ok (.iadd, 1) := by decide +kernel
theorem dLW_law_972 : decode cLW_law 972 = .ok (.iaload, 1) := by decide +kernel
theorem dLW_law_973 : decode cLW_law 973 = .ok (.invokevirtual 111, 3) := by decide +kernel
theorem dLW_law_976 : decode cLW_law 976 = .ok (.aload_n 2, 1) := by decide +kernel
theorem dLW_law_977 : decode cLW_law 977 = .ok (.aload_n 0, 1) := by decide +kernel
theorem dLW_law_978 : decode cLW_law 978 = .ok (.iload 4, 2) := by decide +kernel
theorem dLW_law_980 : decode cLW_law 980 = .ok (.iconst 1, 1) := by decide +kernel
theorem dLW_law_981 : decode cLW_law 981 = .ok (.iadd, 1) := by decide +kernel
theorem dLW_law_982 : decode cLW_law 982 = .ok (.iaload, 1) := by decide +kernel
theorem dLW_law_983 : decode cLW_law 983 = .ok (.invokevirtual 114, 3) := by decide +kernel
theorem dLW_law_986 : decode cLW_law 986 = .ok (.if_icmp .eq 5, 3) := by decide +kernel
theorem dLW_law_989 : decode cLW_law 989 = .ok (.iconst 0, 1) := by decide +kernel
theorem dLW_law_990 : decode cLW_law 990 = .ok (.ireturn, 1) := by decide +kernel
theorem dLW_law_991 : decode cLW_law 991 = .ok (.iinc 4 5, 3) := by decide +kernel
theorem dLW_law_994 : decode cLW_law 994 = .ok (.goto (-941), 3) := by decide +kernel
theorem dLW_law_997 : decode cLW_law 997 = .ok (.iconst 1, 1) := by decide +kernel
theorem dLW_law_998 : decode cLW_law 998 = .ok (.ireturn, 1) := by decide +kernel
