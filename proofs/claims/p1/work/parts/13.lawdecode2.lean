theorem d_L_law_603 : decode code 603 = .ok (.istore 5, 2) := by decide +kernel
theorem d_L_law_605 : decode code 605 = .ok (.aload_n 2, 1) := by decide +kernel
theorem d_L_law_606 : decode code 606 = .ok (.aload_n 0, 1) := by decide +kernel
theorem d_L_law_607 : decode code 607 = .ok (.iload 4, 2) := by decide +kernel
theorem d_L_law_609 : decode code 609 = .ok (.iconst 1, 1) := by decide +kernel
theorem d_L_law_610 : decode code 610 = .ok (.iadd, 1) := by decide +kernel
theorem d_L_law_611 : decode code 611 = .ok (.iaload, 1) := by decide +kernel
theorem d_L_law_612 : decode code 612 = .ok (.aload_n 0, 1) := by decide +kernel
theorem d_L_law_613 : decode code 613 = .ok (.iload 4, 2) := by decide +kernel
theorem d_L_law_615 : decode code 615 = .ok (.iconst 2, 1) := by decide +kernel
theorem d_L_law_616 : decode code 616 = .ok (.iadd, 1) := by decide +kernel
theorem d_L_law_617 : decode code 617 = .ok (.iaload, 1) := by decide +kernel
theorem d_L_law_618 : decode code 618 = .ok (.invokevirtual 111, 3) := by decide +kernel
theorem d_L_law_621 : decode code 621 = .ok (.istore 6, 2) := by decide +kernel
theorem d_L_law_623 : decode code 623 = .ok (.aload_n 2, 1) := by decide +kernel
theorem d_L_law_624 : decode code 624 = .ok (.invokevirtual 85, 3) := by decide +kernel
theorem d_L_law_627 : decode code 627 = .ok (.iload 5, 2) := by decide +kernel
theorem d_L_law_629 : decode code 629 = .ok (.if_icmp .eq 5, 3) := by decide +kernel
theorem d_L_law_634 : decode code 634 = .ok (.iload 5, 2) := by decide +kernel
theorem d_L_law_636 : decode code 636 = .ok (.ifCond .ne 22, 3) := by decide +kernel
theorem d_L_law_639 : decode code 639 = .ok (.aload_n 3, 1) := by decide +kernel
theorem d_L_law_640 : decode code 640 = .ok (.iconst 0, 1) := by decide +kernel
theorem d_L_law_641 : decode code 641 = .ok (.laload, 1) := by decide +kernel
theorem d_L_law_642 : decode code 642 = .ok (.iload 6, 2) := by decide +kernel
theorem d_L_law_644 : decode code 644 = .ok (.ifCond .eq 7, 3) := by decide +kernel
theorem d_L_law_651 : decode code 651 = .ok (.lconst 0, 1) := by decide +kernel
theorem d_L_law_652 : decode code 652 = .ok (.lcmp, 1) := by decide +kernel
theorem d_L_law_653 : decode code 653 = .ok (.ifCond .eq 5, 3) := by decide +kernel
theorem d_L_law_658 : decode code 658 = .ok (.goto 674, 3) := by decide +kernel
theorem d_L_law_661 : decode code 661 = .ok (.aload_n 1, 1) := by decide +kernel
theorem d_L_law_662 : decode code 662 = .ok (.aload_n 0, 1) := by decide +kernel
theorem d_L_law_663 : decode code 663 = .ok (.iload 4, 2) := by decide +kernel
theorem d_L_law_665 : decode code 665 = .ok (.iconst 1, 1) := by decide +kernel
theorem d_L_law_666 : decode code 666 = .ok (.iadd, 1) := by decide +kernel
theorem d_L_law_667 : decode code 667 = .ok (.iaload, 1) := by decide +kernel
theorem d_L_law_668 : decode code 668 = .ok (.aload_n 3, 1) := by decide +kernel
theorem d_L_law_669 : decode code 669 = .ok (.invokestatic 112, 3) := by decide +kernel
theorem d_L_law_672 : decode code 672 = .ok (.istore 5, 2) := by decide +kernel
theorem d_L_law_674 : decode code 674 = .ok (.aload_n 2, 1) := by decide +kernel
theorem d_L_law_675 : decode code 675 = .ok (.aload_n 0, 1) := by decide +kernel
theorem d_L_law_676 : decode code 676 = .ok (.iload 4, 2) := by decide +kernel
theorem d_L_law_678 : decode code 678 = .ok (.iconst 1, 1) := by decide +kernel
theorem d_L_law_679 : decode code 679 = .ok (.iadd, 1) := by decide +kernel
theorem d_L_law_680 : decode code 680 = .ok (.iaload, 1) := by decide +kernel
theorem d_L_law_681 : decode code 681 = .ok (.invokevirtual 114, 3) := by decide +kernel
theorem d_L_law_684 : decode code 684 = .ok (.istore 6, 2) := by decide +kernel
theorem d_L_law_686 : decode code 686 = .ok (.aload_n 2, 1) := by decide +kernel
theorem d_L_law_687 : decode code 687 = .ok (.invokevirtual 85, 3) := by decide +kernel
theorem d_L_law_690 : decode code 690 = .ok (.iload 5, 2) := by decide +kernel
theorem d_L_law_692 : decode code 692 = .ok (.if_icmp .eq 5, 3) := by decide +kernel
theorem d_L_law_697 : decode code 697 = .ok (.iload 5, 2) := by decide +kernel
theorem d_L_law_699 : decode code 699 = .ok (.ifCond .ne 22, 3) := by decide +kernel
theorem d_L_law_702 : decode code 702 = .ok (.aload_n 3, 1) := by decide +kernel
theorem d_L_law_703 : decode code 703 = .ok (.iconst 0, 1) := by decide +kernel
theorem d_L_law_704 : decode code 704 = .ok (.laload, 1) := by decide +kernel
theorem d_L_law_705 : decode code 705 = .ok (.iload 6, 2) := by decide +kernel
theorem d_L_law_707 : decode code 707 = .ok (.ifCond .eq 7, 3) := by decide +kernel
theorem d_L_law_714 : decode code 714 = .ok (.lconst 0, 1) := by decide +kernel
theorem d_L_law_715 : decode code 715 = .ok (.lcmp, 1) := by decide +kernel
theorem d_L_law_716 : decode code 716 = .ok (.ifCond .eq 5, 3) := by decide +kernel
theorem d_L_law_721 : decode code 721 = .ok (.goto 611, 3) := by decide +kernel
theorem d_L_law_724 : decode code 724 = .ok (.aload_n 1, 1) := by decide +kernel
theorem d_L_law_725 : decode code 725 = .ok (.aload_n 0, 1) := by decide +kernel
theorem d_L_law_726 : decode code 726 = .ok (.iload 4, 2) := by decide +kernel
theorem d_L_law_728 : decode code 728 = .ok (.iconst 1, 1) := by decide +kernel
theorem d_L_law_729 : decode code 729 = .ok (.iadd, 1) := by decide +kernel
theorem d_L_law_730 : decode code 730 = .ok (.iaload, 1) := by decide +kernel
theorem d_L_law_731 : decode code 731 = .ok (.aload_n 0, 1) := by decide +kernel
theorem d_L_law_732 : decode code 732 = .ok (.iload 4, 2) := by decide +kernel
theorem d_L_law_734 : decode code 734 = .ok (.iconst 2, 1) := by decide +kernel
theorem d_L_law_735 : decode code 735 = .ok (.iadd, 1) := by decide +kernel
theorem d_L_law_736 : decode code 736 = .ok (.iaload, 1) := by decide +kernel
theorem d_L_law_737 : decode code 737 = .ok (.aload_n 3, 1) := by decide +kernel
theorem d_L_law_738 : decode code 738 = .ok (.invokestatic 115, 3) := by decide +kernel
theorem d_L_law_741 : decode code 741 = .ok (.istore 5, 2) := by decide +kernel
theorem d_L_law_743 : decode code 743 = .ok (.aload_n 2, 1) := by decide +kernel
theorem d_L_law_744 : decode code 744 = .ok (.aload_n 0, 1) := by decide +kernel
theorem d_L_law_745 : decode code 745 = .ok (.iload 4, 2) := by decide +kernel
theorem d_L_law_747 : decode code 747 = .ok (.iconst 1, 1) := by decide +kernel
theorem d_L_law_748 : decode code 748 = .ok (.iadd, 1) := by decide +kernel
theorem d_L_law_749 : decode code 749 = .ok (.iaload, 1) := by decide +kernel
theorem d_L_law_750 : decode code 750 = .ok (.aload_n 0, 1) := by decide +kernel
theorem d_L_law_751 : decode code 751 = .ok (.iload 4, 2) := by decide +kernel
theorem d_L_law_753 : decode code 753 = .ok (.iconst 2, 1) := by decide +kernel
theorem d_L_law_754 : decode code 754 = .ok (.iadd, 1) := by decide +kernel
theorem d_L_law_755 : decode code 755 = .ok (.iaload, 1) := by decide +kernel
theorem d_L_law_756 : decode code 756 = .ok (.invokevirtual 117, 3) := by decide +kernel
theorem d_L_law_759 : decode code 759 = .ok (.istore 6, 2) := by decide +kernel
theorem d_L_law_761 : decode code 761 = .ok (.aload_n 2, 1) := by decide +kernel
theorem d_L_law_762 : decode code 762 = .ok (.invokevirtual 85, 3) := by decide +kernel
theorem d_L_law_765 : decode code 765 = .ok (.iload 5, 2) := by decide +kernel
theorem d_L_law_767 : decode code 767 = .ok (.if_icmp .eq 5, 3) := by decide +kernel
theorem d_L_law_772 : decode code 772 = .ok (.iload 5, 2) := by decide +kernel
theorem d_L_law_774 : decode code 774 = .ok (.ifCond .ne 15, 3) := by decide +kernel
theorem d_L_law_789 : decode code 789 = .ok (.goto 543, 3) := by decide +kernel
theorem d_L_law_792 : decode code 792 = .ok (.aload_n 1, 1) := by decide +kernel
theorem d_L_law_793 : decode code 793 = .ok (.aload_n 0, 1) := by decide +kernel
theorem d_L_law_794 : decode code 794 = .ok (.iload 4, 2) := by decide +kernel
theorem d_L_law_796 : decode code 796 = .ok (.iconst 1, 1) := by decide +kernel
theorem d_L_law_797 : decode code 797 = .ok (.iadd, 1) := by decide +kernel
theorem d_L_law_798 : decode code 798 = .ok (.iaload, 1) := by decide +kernel
theorem d_L_law_799 : decode code 799 = .ok (.aload_n 0, 1) := by decide +kernel
theorem d_L_law_800 : decode code 800 = .ok (.iload 4, 2) := by decide +kernel
theorem d_L_law_802 : decode code 802 = .ok (.iconst 2, 1) := by decide +kernel
theorem d_L_law_803 : decode code 803 = .ok (.iadd, 1) := by decide +kernel
theorem d_L_law_804 : decode code 804 = .ok (.iaload, 1) := by decide +kernel
theorem d_L_law_805 : decode code 805 = .ok (.aload_n 0, 1) := by decide +kernel
theorem d_L_law_806 : decode code 806 = .ok (.iload 4, 2) := by decide +kernel
theorem d_L_law_808 : decode code 808 = .ok (.iconst 3, 1) := by decide +kernel
theorem d_L_law_809 : decode code 809 = .ok (.iadd, 1) := by decide +kernel
theorem d_L_law_810 : decode code 810 = .ok (.iaload, 1) := by decide +kernel
theorem d_L_law_811 : decode code 811 = .ok (.aload_n 3, 1) := by decide +kernel
theorem d_L_law_812 : decode code 812 = .ok (.invokestatic 118, 3) := by decide +kernel
theorem d_L_law_815 : decode code 815 = .ok (.istore 5, 2) := by decide +kernel
theorem d_L_law_817 : decode code 817 = .ok (.aload_n 2, 1) := by decide +kernel
theorem d_L_law_818 : decode code 818 = .ok (.aload_n 0, 1) := by decide +kernel
theorem d_L_law_819 : decode code 819 = .ok (.iload 4, 2) := by decide +kernel
theorem d_L_law_821 : decode code 821 = .ok (.iconst 1, 1) := by decide +kernel
theorem d_L_law_822 : decode code 822 = .ok (.iadd, 1) := by decide +kernel
theorem d_L_law_823 : decode code 823 = .ok (.iaload, 1) := by decide +kernel
theorem d_L_law_824 : decode code 824 = .ok (.aload_n 0, 1) := by decide +kernel
theorem d_L_law_825 : decode code 825 = .ok (.iload 4, 2) := by decide +kernel
theorem d_L_law_827 : decode code 827 = .ok (.iconst 2, 1) := by decide +kernel
theorem d_L_law_828 : decode code 828 = .ok (.iadd, 1) := by decide +kernel
theorem d_L_law_829 : decode code 829 = .ok (.iaload, 1) := by decide +kernel
theorem d_L_law_830 : decode code 830 = .ok (.aload_n 0, 1) := by decide +kernel
theorem d_L_law_831 : decode code 831 = .ok (.iload 4, 2) := by decide +kernel
theorem d_L_law_833 : decode code 833 = .ok (.iconst 3, 1) := by decide +kernel
theorem d_L_law_834 : decode code 834 = .ok (.iadd, 1) := by decide +kernel
theorem d_L_law_835 : decode code 835 = .ok (.iaload, 1) := by decide +kernel
theorem d_L_law_836 : decode code 836 = .ok (.invokevirtual 121, 3) := by decide +kernel
theorem d_L_law_839 : decode code 839 = .ok (.istore 6, 2) := by decide +kernel
theorem d_L_law_841 : decode code 841 = .ok (.aload_n 2, 1) := by decide +kernel
theorem d_L_law_842 : decode code 842 = .ok (.invokevirtual 85, 3) := by decide +kernel
theorem d_L_law_845 : decode code 845 = .ok (.iload 5, 2) := by decide +kernel
theorem d_L_law_847 : decode code 847 = .ok (.if_icmp .eq 5, 3) := by decide +kernel
theorem d_L_law_852 : decode code 852 = .ok (.iload 5, 2) := by decide +kernel
theorem d_L_law_854 : decode code 854 = .ok (.ifCond .ne 15, 3) := by decide +kernel
theorem d_L_law_869 : decode code 869 = .ok (.goto 463, 3) := by decide +kernel
theorem d_L_law_872 : decode code 872 = .ok (.aload_n 1, 1) := by decide +kernel
theorem d_L_law_873 : decode code 873 = .ok (.aload_n 0, 1) := by decide +kernel
theorem d_L_law_874 : decode code 874 = .ok (.iload 4, 2) := by decide +kernel
theorem d_L_law_876 : decode code 876 = .ok (.iconst 1, 1) := by decide +kernel
theorem d_L_law_877 : decode code 877 = .ok (.iadd, 1) := by decide +kernel
theorem d_L_law_878 : decode code 878 = .ok (.iaload, 1) := by decide +kernel
theorem d_L_law_879 : decode code 879 = .ok (.aload_n 0, 1) := by decide +kernel
theorem d_L_law_880 : decode code 880 = .ok (.iload 4, 2) := by decide +kernel
theorem d_L_law_882 : decode code 882 = .ok (.iconst 2, 1) := by decide +kernel
theorem d_L_law_883 : decode code 883 = .ok (.iadd, 1) := by decide +kernel
theorem d_L_law_884 : decode code 884 = .ok (.iaload, 1) := by decide +kernel
