theorem dL_refuses_567 : decode cL_refuses 567 = .ok (.irem, 1) := by decide +kernel
theorem dL_refuses_568 : decode cL_refuses 568 = .ok (.iload 7, 2) := by decide +kernel
theorem dL_refuses_570 : decode cL_refuses 570 = .ok (.iconst 0, 1) := by decide +kernel
theorem dL_refuses_571 : decode cL_refuses 571 = .ok (.invokestatic 136, 3) := by decide +kernel
theorem dL_refuses_574 : decode cL_refuses 574 = .ok (.ldc 18, 2) := by decide +kernel
theorem dL_refuses_576 : decode cL_refuses 576 = .ok (.if_icmp .ne 33, 3) := by decide +kernel
theorem dL_refuses_579 : decode cL_refuses 579 = .ok (.aload_n 0, 1) := by decide +kernel
theorem dL_refuses_580 : decode cL_refuses 580 = .ok (.iload_n 2, 1) := by decide +kernel
theorem dL_refuses_581 : decode cL_refuses 581 = .ok (.iconst 4, 1) := by decide +kernel
theorem dL_refuses_582 : decode cL_refuses 582 = .ok (.irem, 1) := by decide +kernel
theorem dL_refuses_583 : decode cL_refuses 583 = .ok (.iconst 0, 1) := by decide +kernel
theorem dL_refuses_584 : decode cL_refuses 584 = .ok (.iload 7, 2) := by decide +kernel
theorem dL_refuses_586 : decode cL_refuses 586 = .ok (.invokestatic 136, 3) := by decide +kernel
theorem dL_refuses_589 : decode cL_refuses 589 = .ok (.ldc 18, 2) := by decide +kernel
theorem dL_refuses_591 : decode cL_refuses 591 = .ok (.if_icmp .ne 18, 3) := by decide +kernel
theorem dL_refuses_594 : decode cL_refuses 594 = .ok (.aload_n 0, 1) := by decide +kernel
theorem dL_refuses_595 : decode cL_refuses 595 = .ok (.iload 5, 2) := by decide +kernel
theorem dL_refuses_597 : decode cL_refuses 597 = .ok (.invokestatic 138, 3) := by decide +kernel
theorem dL_refuses_600 : decode cL_refuses 600 = .ok (.ldc 15, 2) := by decide +kernel
theorem dL_refuses_602 : decode cL_refuses 602 = .ok (.if_icmp .ne 7, 3) := by decide +kernel
theorem dL_refuses_605 : decode cL_refuses 605 = .ok (.iconst 1, 1) := by decide +kernel
theorem dL_refuses_606 : decode cL_refuses 606 = .ok (.goto 4, 3) := by decide +kernel
theorem dL_refuses_609 : decode cL_refuses 609 = .ok (.iconst 0, 1) := by decide +kernel
theorem dL_refuses_610 : decode cL_refuses 610 = .ok (.istore 9, 2) := by decide +kernel
theorem dL_refuses_612 : decode cL_refuses 612 = .ok (.iconst 0, 1) := by decide +kernel
theorem dL_refuses_613 : decode cL_refuses 613 = .ok (.istore 10, 2) := by decide +kernel
theorem dL_refuses_615 : decode cL_refuses 615 = .ok (.iload 10, 2) := by decide +kernel
theorem dL_refuses_617 : decode cL_refuses 617 = .ok (.iconst 4, 1) := by decide +kernel
theorem dL_refuses_618 : decode cL_refuses 618 = .ok (.if_icmp .ge 59, 3) := by decide +kernel
theorem dL_refuses_621 : decode cL_refuses 621 = .ok (.iload 9, 2) := by decide +kernel
theorem dL_refuses_623 : decode cL_refuses 623 = .ok (.ifCond .eq 54, 3) := by decide +kernel
theorem dL_refuses_626 : decode cL_refuses 626 = .ok (.aload_n 0, 1) := by decide +kernel
theorem dL_refuses_627 : decode cL_refuses 627 = .ok (.iload 10, 2) := by decide +kernel
theorem dL_refuses_629 : decode cL_refuses 629 = .ok (.invokestatic 138, 3) := by decide +kernel
theorem dL_refuses_632 : decode cL_refuses 632 = .ok (.ifCond .eq 32, 3) := by decide +kernel
theorem dL_refuses_635 : decode cL_refuses 635 = .ok (.aload_n 0, 1) := by decide +kernel
theorem dL_refuses_636 : decode cL_refuses 636 = .ok (.iload 10, 2) := by decide +kernel
theorem dL_refuses_638 : decode cL_refuses 638 = .ok (.invokestatic 117, 3) := by decide +kernel
theorem dL_refuses_641 : decode cL_refuses 641 = .ok (.ldc 21, 2) := by decide +kernel
theorem dL_refuses_643 : decode cL_refuses 643 = .ok (.if_icmp .ne 25, 3) := by decide +kernel
theorem dL_refuses_646 : decode cL_refuses 646 = .ok (.aload_n 0, 1) := by decide +kernel
theorem dL_refuses_647 : decode cL_refuses 647 = .ok (.iload_n 2, 1) := by decide +kernel
theorem dL_refuses_648 : decode cL_refuses 648 = .ok (.iconst 3, 1) := by decide +kernel
theorem dL_refuses_649 : decode cL_refuses 649 = .ok (.irem, 1) := by decide +kernel
theorem dL_refuses_650 : decode cL_refuses 650 = .ok (.iload 10, 2) := by decide +kernel
theorem dL_refuses_652 : decode cL_refuses 652 = .ok (.iconst 0, 1) := by decide +kernel
theorem dL_refuses_653 : decode cL_refuses 653 = .ok (.iconst 0, 1) := by decide +kernel
theorem dL_refuses_654 : decode cL_refuses 654 = .ok (.iconst 0, 1) := by decide +kernel
theorem dL_refuses_655 : decode cL_refuses 655 = .ok (.iconst 0, 1) := by decide +kernel
theorem dL_refuses_656 : decode cL_refuses 656 = .ok (.invokestatic 92, 3) := by decide +kernel
theorem dL_refuses_659 : decode cL_refuses 659 = .ok (.ldc 21, 2) := by decide +kernel
theorem dL_refuses_661 : decode cL_refuses 661 = .ok (.if_icmp .ne 7, 3) := by decide +kernel
theorem dL_refuses_664 : decode cL_refuses 664 = .ok (.iconst 1, 1) := by decide +kernel
theorem dL_refuses_665 : decode cL_refuses 665 = .ok (.goto 4, 3) := by decide +kernel
theorem dL_refuses_668 : decode cL_refuses 668 = .ok (.iconst 0, 1) := by decide +kernel
theorem dL_refuses_669 : decode cL_refuses 669 = .ok (.istore 9, 2) := by decide +kernel
theorem dL_refuses_671 : decode cL_refuses 671 = .ok (.iinc 10 1, 3) := by decide +kernel
theorem dL_refuses_674 : decode cL_refuses 674 = .ok (.goto (-59), 3) := by decide +kernel
theorem dL_refuses_677 : decode cL_refuses 677 = .ok (.iload_n 1, 1) := by decide +kernel
theorem dL_refuses_678 : decode cL_refuses 678 = .ok (.ifCond .eq 8, 3) := by decide +kernel
theorem dL_refuses_681 : decode cL_refuses 681 = .ok (.iload 9, 2) := by decide +kernel
theorem dL_refuses_683 : decode cL_refuses 683 = .ok (.ifCond .ne 6, 3) := by decide +kernel
theorem dL_refuses_686 : decode cL_refuses 686 = .ok (.iload 9, 2) := by decide +kernel
theorem dL_refuses_688 : decode cL_refuses 688 = .ok (.ireturn, 1) := by decide +kernel
theorem dL_refuses_689 : decode cL_refuses 689 = .ok (.iload_n 2, 1) := by decide +kernel
theorem dL_refuses_690 : decode cL_refuses 690 = .ok (.iconst 3, 1) := by decide +kernel
theorem dL_refuses_691 : decode cL_refuses 691 = .ok (.idiv, 1) := by decide +kernel
theorem dL_refuses_692 : decode cL_refuses 692 = .ok (.iload_n 1, 1) := by decide +kernel
theorem dL_refuses_693 : decode cL_refuses 693 = .ok (.irem, 1) := by decide +kernel
theorem dL_refuses_694 : decode cL_refuses 694 = .ok (.istore 10, 2) := by decide +kernel
theorem dL_refuses_696 : decode cL_refuses 696 = .ok (.aload_n 0, 1) := by decide +kernel
theorem dL_refuses_697 : decode cL_refuses 697 = .ok (.iload 10, 2) := by decide +kernel
theorem dL_refuses_699 : decode cL_refuses 699 = .ok (.bipush 6, 2) := by decide +kernel
theorem dL_refuses_701 : decode cL_refuses 701 = .ok (.invokestatic 121, 3) := by decide +kernel
theorem dL_refuses_704 : decode cL_refuses 704 = .ok (.istore 11, 2) := by decide +kernel
theorem dL_refuses_706 : decode cL_refuses 706 = .ok (.aload_n 0, 1) := by decide +kernel
theorem dL_refuses_707 : decode cL_refuses 707 = .ok (.iload 4, 2) := by decide +kernel
theorem dL_refuses_709 : decode cL_refuses 709 = .ok (.iconst 0, 1) := by decide +kernel
theorem dL_refuses_710 : decode cL_refuses 710 = .ok (.iload 10, 2) := by decide +kernel
theorem dL_refuses_712 : decode cL_refuses 712 = .ok (.iconst 0, 1) := by decide +kernel
theorem dL_refuses_713 : decode cL_refuses 713 = .ok (.iconst 0, 1) := by decide +kernel
theorem dL_refuses_714 : decode cL_refuses 714 = .ok (.invokestatic 97, 3) := by decide +kernel
theorem dL_refuses_717 : decode cL_refuses 717 = .ok (.ldc 15, 2) := by decide +kernel
theorem dL_refuses_719 : decode cL_refuses 719 = .ok (.if_icmp .ne 262, 3) := by decide +kernel
theorem dL_refuses_722 : decode cL_refuses 722 = .ok (.aload_n 0, 1) := by decide +kernel
theorem dL_refuses_723 : decode cL_refuses 723 = .ok (.iload 4, 2) := by decide +kernel
theorem dL_refuses_725 : decode cL_refuses 725 = .ok (.iconst 0, 1) := by decide +kernel
theorem dL_refuses_726 : decode cL_refuses 726 = .ok (.iload 10, 2) := by decide +kernel
theorem dL_refuses_728 : decode cL_refuses 728 = .ok (.invokestatic 100, 3) := by decide +kernel
theorem dL_refuses_731 : decode cL_refuses 731 = .ok (.ldc 15, 2) := by decide +kernel
theorem dL_refuses_733 : decode cL_refuses 733 = .ok (.if_icmp .ne 248, 3) := by decide +kernel
theorem dL_refuses_736 : decode cL_refuses 736 = .ok (.aload_n 0, 1) := by decide +kernel
theorem dL_refuses_737 : decode cL_refuses 737 = .ok (.iload_n 2, 1) := by decide +kernel
theorem dL_refuses_738 : decode cL_refuses 738 = .ok (.iconst 3, 1) := by decide +kernel
theorem dL_refuses_739 : decode cL_refuses 739 = .ok (.irem, 1) := by decide +kernel
theorem dL_refuses_740 : decode cL_refuses 740 = .ok (.iload 8, 2) := by decide +kernel
theorem dL_refuses_742 : decode cL_refuses 742 = .ok (.iload 10, 2) := by decide +kernel
theorem dL_refuses_744 : decode cL_refuses 744 = .ok (.iconst 0, 1) := by decide +kernel
theorem dL_refuses_745 : decode cL_refuses 745 = .ok (.iconst 0, 1) := by decide +kernel
theorem dL_refuses_746 : decode cL_refuses 746 = .ok (.invokestatic 97, 3) := by decide +kernel
theorem dL_refuses_749 : decode cL_refuses 749 = .ok (.ldc 18, 2) := by decide +kernel
theorem dL_refuses_751 : decode cL_refuses 751 = .ok (.if_icmp .ne 230, 3) := by decide +kernel
theorem dL_refuses_754 : decode cL_refuses 754 = .ok (.aload_n 0, 1) := by decide +kernel
theorem dL_refuses_755 : decode cL_refuses 755 = .ok (.iload_n 2, 1) := by decide +kernel
theorem dL_refuses_756 : decode cL_refuses 756 = .ok (.iconst 3, 1) := by decide +kernel
theorem dL_refuses_757 : decode cL_refuses 757 = .ok (.irem, 1) := by decide +kernel
theorem dL_refuses_758 : decode cL_refuses 758 = .ok (.iload 8, 2) := by decide +kernel
theorem dL_refuses_760 : decode cL_refuses 760 = .ok (.iload 10, 2) := by decide +kernel
theorem dL_refuses_762 : decode cL_refuses 762 = .ok (.invokestatic 100, 3) := by decide +kernel
theorem dL_refuses_765 : decode cL_refuses 765 = .ok (.ldc 18, 2) := by decide +kernel
theorem dL_refuses_767 : decode cL_refuses 767 = .ok (.if_icmp .ne 214, 3) := by decide +kernel
theorem dL_refuses_770 : decode cL_refuses 770 = .ok (.aload_n 0, 1) := by decide +kernel
theorem dL_refuses_771 : decode cL_refuses 771 = .ok (.iload_n 2, 1) := by decide +kernel
theorem dL_refuses_772 : decode cL_refuses 772 = .ok (.iconst 3, 1) := by decide +kernel
theorem dL_refuses_773 : decode cL_refuses 773 = .ok (.irem, 1) := by decide +kernel
theorem dL_refuses_774 : decode cL_refuses 774 = .ok (.iconst 0, 1) := by decide +kernel
theorem dL_refuses_775 : decode cL_refuses 775 = .ok (.iload 10, 2) := by decide +kernel
theorem dL_refuses_777 : decode cL_refuses 777 = .ok (.iload_n 3, 1) := by decide +kernel
theorem dL_refuses_778 : decode cL_refuses 778 = .ok (.ifCond .eq 10, 3) := by decide +kernel
theorem dL_refuses_781 : decode cL_refuses 781 = .ok (.bipush (-12), 2) := by decide +kernel
theorem dL_refuses_783 : decode cL_refuses 783 = .ok (.iload_n 2, 1) := by decide +kernel
theorem dL_refuses_784 : decode cL_refuses 784 = .ok (.isub, 1) := by decide +kernel
theorem dL_refuses_785 : decode cL_refuses 785 = .ok (.goto 7, 3) := by decide +kernel
theorem dL_refuses_788 : decode cL_refuses 788 = .ok (.bipush 12, 2) := by decide +kernel
theorem dL_refuses_790 : decode cL_refuses 790 = .ok (.iload_n 2, 1) := by decide +kernel
theorem dL_refuses_791 : decode cL_refuses 791 = .ok (.iadd, 1) := by decide +kernel
theorem dL_refuses_792 : decode cL_refuses 792 = .ok (.iconst 0, 1) := by decide +kernel
theorem dL_refuses_793 : decode cL_refuses 793 = .ok (.invokestatic 97, 3) := by decide +kernel
theorem dL_refuses_796 : decode cL_refuses 796 = .ok (.ldc 18, 2) := by decide +kernel
theorem dL_refuses_798 : decode cL_refuses 798 = .ok (.if_icmp .ne 183, 3) := by decide +kernel
theorem dL_refuses_801 : decode cL_refuses 801 = .ok (.aload_n 0, 1) := by decide +kernel
theorem dL_refuses_802 : decode cL_refuses 802 = .ok (.iload_n 2, 1) := by decide +kernel
theorem dL_refuses_803 : decode cL_refuses 803 = .ok (.iconst 3, 1) := by decide +kernel
theorem dL_refuses_804 : decode cL_refuses 804 = .ok (.irem, 1) := by decide +kernel
theorem dL_refuses_805 : decode cL_refuses 805 = .ok (.iconst 0, 1) := by decide +kernel
theorem dL_refuses_806 : decode cL_refuses 806 = .ok (.iload 10, 2) := by decide +kernel
theorem dL_refuses_808 : decode cL_refuses 808 = .ok (.iconst 0, 1) := by decide +kernel
theorem dL_refuses_809 : decode cL_refuses 809 = .ok (.iload_n 3, 1) := by decide +kernel
theorem dL_refuses_810 : decode cL_refuses 810 = .ok (.ifCond .eq 10, 3) := by decide +kernel
theorem dL_refuses_813 : decode cL_refuses 813 = .ok (.bipush (-12), 2) := by decide +kernel
theorem dL_refuses_815 : decode cL_refuses 815 = .ok (.iload_n 2, 1) := by decide +kernel
theorem dL_refuses_816 : decode cL_refuses 816 = .ok (.isub, 1) := by decide +kernel
theorem dL_refuses_817 : decode cL_refuses 817 = .ok (.goto 7, 3) := by decide +kernel
theorem dL_refuses_820 : decode cL_refuses 820 = .ok (.bipush 12, 2) := by decide +kernel
theorem dL_refuses_822 : decode cL_refuses 822 = .ok (.iload_n 2, 1) := by decide +kernel
theorem dL_refuses_823 : decode cL_refuses 823 = .ok (.iadd, 1) := by decide +kernel
theorem dL_refuses_824 : decode cL_refuses 824 = .ok (.invokestatic 97, 3) := by decide +kernel
theorem dL_refuses_827 : decode cL_refuses 827 = .ok (.ldc 18, 2) := by decide +kernel
theorem dL_refuses_829 : decode cL_refuses 829 = .ok (.if_icmp .ne 152, 3) := by decide +kernel
theorem dL_refuses_832 : decode cL_refuses 832 = .ok (.aload_n 0, 1) := by decide +kernel
theorem dL_refuses_833 : decode cL_refuses 833 = .ok (.iload_n 2, 1) := by decide +kernel
theorem dL_refuses_834 : decode cL_refuses 834 = .ok (.iconst 3, 1) := by decide +kernel
theorem dL_refuses_835 : decode cL_refuses 835 = .ok (.irem, 1) := by decide +kernel
theorem dL_refuses_836 : decode cL_refuses 836 = .ok (.iconst 0, 1) := by decide +kernel
theorem dL_refuses_837 : decode cL_refuses 837 = .ok (.iload 10, 2) := by decide +kernel
theorem dL_refuses_839 : decode cL_refuses 839 = .ok (.iconst (-1), 1) := by decide +kernel
theorem dL_refuses_840 : decode cL_refuses 840 = .ok (.aload_n 0, 1) := by decide +kernel
theorem dL_refuses_841 : decode cL_refuses 841 = .ok (.iload 10, 2) := by decide +kernel
theorem dL_refuses_843 : decode cL_refuses 843 = .ok (.iconst 2, 1) := by decide +kernel
theorem dL_refuses_844 : decode cL_refuses 844 = .ok (.invokestatic 121, 3) := by decide +kernel
theorem dL_refuses_847 : decode cL_refuses 847 = .ok (.isub, 1) := by decide +kernel
theorem dL_refuses_848 : decode cL_refuses 848 = .ok (.iconst 0, 1) := by decide +kernel
theorem dL_refuses_849 : decode cL_refuses 849 = .ok (.invokestatic 97, 3) := by decide +kernel
theorem dL_refuses_852 : decode cL_refuses 852 = .ok (.ldc 18, 2) := by decide +kernel
theorem dL_refuses_854 : decode cL_refuses 854 = .ok (.if_icmp .ne 127, 3) := by decide +kernel
theorem dL_refuses_857 : decode cL_refuses 857 = .ok (.aload_n 0, 1) := by decide +kernel
theorem dL_refuses_858 : decode cL_refuses 858 = .ok (.iload 10, 2) := by decide +kernel
theorem dL_refuses_860 : decode cL_refuses 860 = .ok (.iload_n 3, 1) := by decide +kernel
theorem dL_refuses_861 : decode cL_refuses 861 = .ok (.ifCond .eq 9, 3) := by decide +kernel
theorem dL_refuses_864 : decode cL_refuses 864 = .ok (.iconst (-1), 1) := by decide +kernel
theorem dL_refuses_865 : decode cL_refuses 865 = .ok (.iload_n 2, 1) := by decide +kernel
theorem dL_refuses_866 : decode cL_refuses 866 = .ok (.isub, 1) := by decide +kernel
theorem dL_refuses_867 : decode cL_refuses 867 = .ok (.goto 7, 3) := by decide +kernel
theorem dL_refuses_870 : decode cL_refuses 870 = .ok (.bipush 10, 2) := by decide +kernel
theorem dL_refuses_872 : decode cL_refuses 872 = .ok (.iload_n 2, 1) := by decide +kernel
theorem dL_refuses_873 : decode cL_refuses 873 = .ok (.iadd, 1) := by decide +kernel
theorem dL_refuses_874 : decode cL_refuses 874 = .ok (.invokestatic 121, 3) := by decide +kernel
theorem dL_refuses_877 : decode cL_refuses 877 = .ok (.ldc 18, 2) := by decide +kernel
theorem dL_refuses_879 : decode cL_refuses 879 = .ok (.if_icmp .ne 102, 3) := by decide +kernel
theorem dL_refuses_882 : decode cL_refuses 882 = .ok (.aload_n 0, 1) := by decide +kernel
theorem dL_refuses_883 : decode cL_refuses 883 = .ok (.iload 10, 2) := by decide +kernel
theorem dL_refuses_885 : decode cL_refuses 885 = .ok (.iload 6, 2) := by decide +kernel
theorem dL_refuses_887 : decode cL_refuses 887 = .ok (.invokestatic 123, 3) := by decide +kernel
theorem dL_refuses_890 : decode cL_refuses 890 = .ok (.ldc 15, 2) := by decide +kernel
theorem dL_refuses_892 : decode cL_refuses 892 = .ok (.if_icmp .ne 89, 3) := by decide +kernel
theorem dL_refuses_895 : decode cL_refuses 895 = .ok (.iload 11, 2) := by decide +kernel
theorem dL_refuses_897 : decode cL_refuses 897 = .ok (.ifCond .eq 46, 3) := by decide +kernel
theorem dL_refuses_900 : decode cL_refuses 900 = .ok (.aload_n 0, 1) := by decide +kernel
theorem dL_refuses_901 : decode cL_refuses 901 = .ok (.iload_n 2, 1) := by decide +kernel
theorem dL_refuses_902 : decode cL_refuses 902 = .ok (.iconst 3, 1) := by decide +kernel
theorem dL_refuses_903 : decode cL_refuses 903 = .ok (.irem, 1) := by decide +kernel
theorem dL_refuses_904 : decode cL_refuses 904 = .ok (.iconst 0, 1) := by decide +kernel
theorem dL_refuses_905 : decode cL_refuses 905 = .ok (.iload 10, 2) := by decide +kernel
theorem dL_refuses_907 : decode cL_refuses 907 = .ok (.iconst 0, 1) := by decide +kernel
theorem dL_refuses_908 : decode cL_refuses 908 = .ok (.iconst 0, 1) := by decide +kernel
theorem dL_refuses_909 : decode cL_refuses 909 = .ok (.invokestatic 97, 3) := by decide +kernel
theorem dL_refuses_912 : decode cL_refuses 912 = .ok (.ldc 21, 2) := by decide +kernel
theorem dL_refuses_914 : decode cL_refuses 914 = .ok (.if_icmp .ne 67, 3) := by decide +kernel
theorem dL_refuses_917 : decode cL_refuses 917 = .ok (.aload_n 0, 1) := by decide +kernel
theorem dL_refuses_918 : decode cL_refuses 918 = .ok (.iload_n 2, 1) := by decide +kernel
theorem dL_refuses_919 : decode cL_refuses 919 = .ok (.iconst 3, 1) := by decide +kernel
theorem dL_refuses_920 : decode cL_refuses 920 = .ok (.irem, 1) := by decide +kernel
theorem dL_refuses_921 : decode cL_refuses 921 = .ok (.iconst 0, 1) := by decide +kernel
theorem dL_refuses_922 : decode cL_refuses 922 = .ok (.iload 10, 2) := by decide +kernel
theorem dL_refuses_924 : decode cL_refuses 924 = .ok (.invokestatic 100, 3) := by decide +kernel
theorem dL_refuses_927 : decode cL_refuses 927 = .ok (.ldc 21, 2) := by decide +kernel
theorem dL_refuses_929 : decode cL_refuses 929 = .ok (.if_icmp .ne 52, 3) := by decide +kernel
theorem dL_refuses_932 : decode cL_refuses 932 = .ok (.aload_n 0, 1) := by decide +kernel
theorem dL_refuses_933 : decode cL_refuses 933 = .ok (.iload 10, 2) := by decide +kernel
theorem dL_refuses_935 : decode cL_refuses 935 = .ok (.invokestatic 110, 3) := by decide +kernel
theorem dL_refuses_938 : decode cL_refuses 938 = .ok (.ldc 21, 2) := by decide +kernel
theorem dL_refuses_940 : decode cL_refuses 940 = .ok (.if_icmp .ne 41, 3) := by decide +kernel
theorem dL_refuses_943 : decode cL_refuses 943 = .ok (.iload 11, 2) := by decide +kernel
theorem dL_refuses_945 : decode cL_refuses 945 = .ok (.iconst 1, 1) := by decide +kernel
theorem dL_refuses_946 : decode cL_refuses 946 = .ok (.if_icmp .eq 14, 3) := by decide +kernel
theorem dL_refuses_949 : decode cL_refuses 949 = .ok (.aload_n 0, 1) := by decide +kernel
theorem dL_refuses_950 : decode cL_refuses 950 = .ok (.iload 10, 2) := by decide +kernel
theorem dL_refuses_952 : decode cL_refuses 952 = .ok (.invokestatic 113, 3) := by decide +kernel
theorem dL_refuses_955 : decode cL_refuses 955 = .ok (.ldc 21, 2) := by decide +kernel
theorem dL_refuses_957 : decode cL_refuses 957 = .ok (.if_icmp .ne 24, 3) := by decide +kernel
theorem dL_refuses_960 : decode cL_refuses 960 = .ok (.iload 11, 2) := by decide +kernel
theorem dL_refuses_962 : decode cL_refuses 962 = .ok (.iconst 2, 1) := by decide +kernel
theorem dL_refuses_963 : decode cL_refuses 963 = .ok (.if_icmp .eq 14, 3) := by decide +kernel
theorem dL_refuses_966 : decode cL_refuses 966 = .ok (.aload_n 0, 1) := by decide +kernel
theorem dL_refuses_967 : decode cL_refuses 967 = .ok (.iload 10, 2) := by decide +kernel
theorem dL_refuses_969 : decode cL_refuses 969 = .ok (.invokestatic 115, 3) := by decide +kernel
theorem dL_refuses_972 : decode cL_refuses 972 = .ok (.ldc 21, 2) := by decide +kernel
theorem dL_refuses_974 : decode cL_refuses 974 = .ok (.if_icmp .ne 7, 3) := by decide +kernel
theorem dL_refuses_977 : decode cL_refuses 977 = .ok (.iconst 1, 1) := by decide +kernel
theorem dL_refuses_978 : decode cL_refuses 978 = .ok (.goto 4, 3) := by decide +kernel
theorem dL_refuses_981 : decode cL_refuses 981 = .ok (.iconst 0, 1) := by decide +kernel
theorem dL_refuses_982 : decode cL_refuses 982 = .ok (.ireturn, 1) := by decide +kernel
set_option maxRecDepth 20000 in
theorem ggL_act_X1_revision : GoodIn wsL_act wsX1_revision := goodIn_r _ [5, 6, 220, 221, 222, 223, 224, 225, 226, 227] (by decide +kernel) (by decide +kernel)
set_option maxRecDepth 20000 in
theorem gL_act_X1_revision : GoodIn wsL_act (wsV RL 88 RX1 yX1_revision wsX1_revision) := goodIn_app (goodIn_of _ (by decide +kernel)) ggL_act_X1_revision
set_option maxRecDepth 20000 in
theorem ggL_act_L_add : GoodIn wsL_act wsL_add := goodIn_ca (goodIn_ca (goodIn_ca (goodIn_r _ [10, 11, 12, 13, 14, 15, 16, 17, 18, 19, 4, 20, 21, 22, 23, 24, 25, 26, 27, 28, 29, 6, 30, 31, 32, 33, 34, 35, 36, 37, 38, 39, 40, 41, 42, 43, 44, 45, 46, 47, 48, 49, 50, 51, 52, 53, 54, 55, 56, 57, 58, 59, 60, 220, 221, 222, 223, 224, 225, 226, 227, 228, 229, 230, 231, 232, 233, 234, 235, 236, 237] (by decide +kernel) (by decide +kernel)) (goodIn_sub (fun _ h => List.mem_cons_of_mem _ (List.mem_append_left _ (List.mem_append_left _ (List.mem_append_right _ h)))) (by decide +kernel))) (goodIn_sub (fun _ h => List.mem_cons_of_mem _ (List.mem_append_left _ (List.mem_append_right _ h))) (by decide +kernel))) (goodIn_sub (fun _ h => List.mem_cons_of_mem _ (List.mem_append_right _ h)) (by decide +kernel))
set_option maxRecDepth 20000 in
theorem gL_act_L_add : GoodIn wsL_act (va_wsS RL 92 yL_add wsL_add) := goodIn_app (goodIn_of _ (by decide +kernel)) ggL_act_L_add
set_option maxRecDepth 20000 in
theorem ggL_act_L_move : GoodIn wsL_act wsL_move := goodIn_ca (goodIn_ca (goodIn_ca (goodIn_r _ [63, 11, 12, 13, 14, 15, 16, 64, 65, 66, 4, 67, 21, 22, 23, 24, 25, 26, 68, 69, 70, 71, 72, 29, 36, 37, 38, 33, 34, 35, 73, 74, 75, 76, 6, 77, 78, 79, 80, 81, 82, 32, 83, 55, 56, 57, 58, 43, 44, 84, 85, 86, 87, 88, 89, 90, 91, 92, 93, 94, 95, 96, 228, 229, 230, 231, 232, 233, 234, 235, 236, 237, 220, 221, 222, 223, 224, 225, 226, 227] (by decide +kernel) (by decide +kernel)) (goodIn_sub (fun _ h => List.mem_cons_of_mem _ (List.mem_append_left _ (List.mem_append_left _ (List.mem_append_right _ h)))) (by decide +kernel))) (goodIn_sub (fun _ h => List.mem_cons_of_mem _ (List.mem_append_left _ (List.mem_append_right _ h))) (by decide +kernel))) (goodIn_sub (fun _ h => List.mem_cons_of_mem _ (List.mem_append_right _ h)) (by decide +kernel))
set_option maxRecDepth 20000 in
theorem gL_act_L_move : GoodIn wsL_act (va_wsS RL 97 yL_move wsL_move) := goodIn_app (goodIn_of _ (by decide +kernel)) ggL_act_L_move
set_option maxRecDepth 20000 in
theorem ggL_act_L_remove : GoodIn wsL_act wsL_remove := goodIn_ca (goodIn_ca (goodIn_ca (goodIn_r _ [99, 11, 12, 13, 14, 15, 16, 100, 101, 102, 4, 103, 21, 22, 23, 24, 25, 26, 68, 69, 70, 71, 72, 29, 36, 37, 38, 33, 34, 35, 73, 74, 75, 76, 6, 93, 94, 95, 96, 87, 88, 228, 229, 230, 231, 232, 233, 234, 235, 236, 237, 220, 221, 222, 223, 224, 225, 226, 227] (by decide +kernel) (by decide +kernel)) (goodIn_sub (fun _ h => List.mem_cons_of_mem _ (List.mem_append_left _ (List.mem_append_left _ (List.mem_append_right _ h)))) (by decide +kernel))) (goodIn_sub (fun _ h => List.mem_cons_of_mem _ (List.mem_append_left _ (List.mem_append_right _ h))) (by decide +kernel))) (goodIn_sub (fun _ h => List.mem_cons_of_mem _ (List.mem_append_right _ h)) (by decide +kernel))
set_option maxRecDepth 20000 in
theorem gL_act_L_remove : GoodIn wsL_act (va_wsS RL 100 yL_remove wsL_remove) := goodIn_app (goodIn_of _ (by decide +kernel)) ggL_act_L_remove
set_option maxRecDepth 20000 in
theorem ggL_act_L_clear : GoodIn wsL_act wsL_clear := goodIn_ca (goodIn_ca (goodIn_r _ [106, 11, 12, 14, 15, 107, 108, 109, 4, 110, 21, 22, 23, 24, 111, 33, 34, 35, 36, 37, 38, 220, 221, 222, 223, 224, 225, 226, 227] (by decide +kernel) (by decide +kernel)) (goodIn_sub (fun _ h => List.mem_cons_of_mem _ (List.mem_append_left _ (List.mem_append_left _ (List.mem_append_right _ h)))) (by decide +kernel))) (goodIn_sub (fun _ h => List.mem_cons_of_mem _ (List.mem_append_left _ (List.mem_append_right _ h))) (by decide +kernel))
set_option maxRecDepth 20000 in
theorem gL_act_L_clear : GoodIn wsL_act (va_wsS RL 103 yL_clear wsL_clear) := goodIn_app (goodIn_of _ (by decide +kernel)) ggL_act_L_clear
set_option maxRecDepth 20000 in
theorem ggL_act_L_part : GoodIn wsL_act wsL_part := goodIn_ca (goodIn_ca (goodIn_r _ [114, 11, 12, 14, 15, 115, 116, 117, 4, 118, 21, 22, 23, 24, 119, 33, 34, 35, 36, 37, 38, 220, 221, 222, 223, 224, 225, 226, 227] (by decide +kernel) (by decide +kernel)) (goodIn_sub (fun _ h => List.mem_cons_of_mem _ (List.mem_append_left _ (List.mem_append_left _ (List.mem_append_right _ h)))) (by decide +kernel))) (goodIn_sub (fun _ h => List.mem_cons_of_mem _ (List.mem_append_left _ (List.mem_append_right _ h))) (by decide +kernel))
set_option maxRecDepth 20000 in
theorem gL_act_L_part : GoodIn wsL_act (va_wsS RL 105 yL_part wsL_part) := goodIn_app (goodIn_of _ (by decide +kernel)) ggL_act_L_part
set_option maxRecDepth 20000 in
theorem ggL_act_L_lead : GoodIn wsL_act wsL_lead := goodIn_ca (goodIn_ca (goodIn_r _ [122, 11, 12, 14, 15, 123, 124, 125, 4, 126, 21, 22, 23, 24, 127, 33, 34, 35, 36, 37, 38, 220, 221, 222, 223, 224, 225, 226, 227] (by decide +kernel) (by decide +kernel)) (goodIn_sub (fun _ h => List.mem_cons_of_mem _ (List.mem_append_left _ (List.mem_append_left _ (List.mem_append_right _ h)))) (by decide +kernel))) (goodIn_sub (fun _ h => List.mem_cons_of_mem _ (List.mem_append_left _ (List.mem_append_right _ h))) (by decide +kernel))
set_option maxRecDepth 20000 in
theorem gL_act_L_lead : GoodIn wsL_act (va_wsS RL 108 yL_lead wsL_lead) := goodIn_app (goodIn_of _ (by decide +kernel)) ggL_act_L_lead
set_option maxRecDepth 20000 in
theorem ggL_act_L_order : GoodIn wsL_act wsL_order := goodIn_ca (goodIn_ca (goodIn_r _ [130, 11, 13, 14, 16, 131, 132, 133, 4, 134, 21, 22, 25, 26, 68, 135, 136, 137, 69, 70, 71, 72, 29, 36, 37, 38, 138, 139, 140, 141, 127, 33, 34, 35, 142, 143, 144, 32, 145, 51, 52, 146, 147, 148, 149, 119, 150, 151, 152, 153, 57, 55, 154, 155, 156, 157, 58, 56, 228, 229, 230, 231, 232, 233, 234, 235, 236, 237, 220, 221, 222, 223, 224, 225, 226, 227] (by decide +kernel) (by decide +kernel)) (goodIn_sub (fun _ h => List.mem_cons_of_mem _ (List.mem_append_left _ (List.mem_append_left _ (List.mem_append_right _ h)))) (by decide +kernel))) (goodIn_sub (fun _ h => List.mem_cons_of_mem _ (List.mem_append_right _ h)) (by decide +kernel))
set_option maxRecDepth 20000 in
theorem gL_act_L_order : GoodIn wsL_act (va_wsS RL 110 yL_order wsL_order) := goodIn_app (goodIn_of _ (by decide +kernel)) ggL_act_L_order
set_option maxRecDepth 20000 in
theorem ggL_act_L_cancel : GoodIn wsL_act wsL_cancel := goodIn_ca (goodIn_ca (goodIn_r _ [160, 11, 13, 14, 16, 161, 162, 163, 4, 164, 21, 22, 25, 26, 68, 137, 135, 69, 70, 71, 72, 29, 36, 37, 38, 228, 229, 230, 231, 232, 233, 234, 235, 236, 237, 220, 221, 222, 223, 224, 225, 226, 227] (by decide +kernel) (by decide +kernel)) (goodIn_sub (fun _ h => List.mem_cons_of_mem _ (List.mem_append_left _ (List.mem_append_left _ (List.mem_append_right _ h)))) (by decide +kernel))) (goodIn_sub (fun _ h => List.mem_cons_of_mem _ (List.mem_append_right _ h)) (by decide +kernel))
set_option maxRecDepth 20000 in
theorem gL_act_L_cancel : GoodIn wsL_act (va_wsS RL 113 yL_cancel wsL_cancel) := goodIn_app (goodIn_of _ (by decide +kernel)) ggL_act_L_cancel
set_option maxRecDepth 20000 in
theorem ggL_act_L_build : GoodIn wsL_act wsL_build := goodIn_ca (goodIn_ca (goodIn_r _ [167, 11, 13, 14, 16, 168, 169, 170, 4, 171, 21, 22, 25, 26, 68, 69, 70, 71, 72, 29, 36, 37, 38, 172, 173, 174, 175, 28, 176, 177, 178, 179, 180, 136, 181, 182, 183, 32, 184, 51, 185, 186, 187, 188, 55, 57, 56, 58, 189, 190, 156, 191, 192, 193, 194, 195, 196, 197, 198, 199, 200, 201, 111, 33, 34, 35, 228, 229, 230, 231, 232, 233, 234, 235, 236, 237, 220, 221, 222, 223, 224, 225, 226, 227] (by decide +kernel) (by decide +kernel)) (goodIn_sub (fun _ h => List.mem_cons_of_mem _ (List.mem_append_left _ (List.mem_append_left _ (List.mem_append_right _ h)))) (by decide +kernel))) (goodIn_sub (fun _ h => List.mem_cons_of_mem _ (List.mem_append_right _ h)) (by decide +kernel))
set_option maxRecDepth 20000 in
theorem gL_act_L_build : GoodIn wsL_act (va_wsS RL 115 yL_build wsL_build) := goodIn_app (goodIn_of _ (by decide +kernel)) ggL_act_L_build
set_option maxRecDepth 20000 in
theorem ggL_act_L_inspect : GoodIn wsL_act wsL_inspect := goodIn_ca (goodIn_ca (goodIn_r _ [204, 11, 13, 14, 16, 205, 206, 207, 4, 208, 21, 22, 25, 26, 27, 39, 40, 41, 36, 37, 38, 209, 210, 211, 212, 28, 180, 68, 69, 70, 71, 72, 29, 181, 182, 183, 32, 184, 51, 172, 173, 174, 175, 176, 177, 178, 179, 136, 185, 186, 187, 188, 55, 57, 56, 58, 189, 190, 156, 191, 192, 193, 194, 195, 196, 197, 198, 199, 200, 201, 111, 33, 34, 35, 220, 221, 222, 223, 224, 225, 226, 227, 228, 229, 230, 231, 232, 233, 234, 235, 236, 237] (by decide +kernel) (by decide +kernel)) (goodIn_sub (fun _ h => List.mem_cons_of_mem _ (List.mem_append_left _ (List.mem_append_left _ (List.mem_append_right _ h)))) (by decide +kernel))) (goodIn_sub (fun _ h => List.mem_cons_of_mem _ (List.mem_append_right _ h)) (by decide +kernel))
set_option maxRecDepth 20000 in
theorem gL_act_L_inspect : GoodIn wsL_act (va_wsS RL 117 yL_inspect wsL_inspect) := goodIn_app (goodIn_of _ (by decide +kernel)) ggL_act_L_inspect
set_option maxRecDepth 20000 in
theorem ggL_act_L_pass : GoodIn wsL_act wsL_pass := goodIn_ca (goodIn_ca (goodIn_r _ [215, 12, 13, 15, 16, 216, 217, 218, 4, 219, 23, 24, 25, 26, 135, 28, 36, 37, 38, 69, 70, 71, 72, 29, 142, 143, 144, 32, 145, 51, 52, 220, 221, 222, 223, 224, 225, 226, 227, 228, 229, 230, 231, 232, 233, 234, 235, 236, 237] (by decide +kernel) (by decide +kernel)) (goodIn_sub (fun _ h => List.mem_cons_of_mem _ (List.mem_append_left _ (List.mem_append_right _ h))) (by decide +kernel))) (goodIn_sub (fun _ h => List.mem_cons_of_mem _ (List.mem_append_right _ h)) (by decide +kernel))
set_option maxRecDepth 20000 in
theorem gL_act_L_pass : GoodIn wsL_act (va_wsS RL 119 yL_pass wsL_pass) := goodIn_app (goodIn_of _ (by decide +kernel)) ggL_act_L_pass
theorem dL_act_0 : decode cL_act 0 = .ok (.iload_n 2, 1) := by decide +kernel
theorem dL_act_1 : decode cL_act 1 = .ok (.bipush 20, 2) := by decide +kernel
theorem dL_act_3 : decode cL_act 3 = .ok (.idiv, 1) := by decide +kernel
theorem dL_act_4 : decode cL_act 4 = .ok (.istore_n 3, 1) := by decide +kernel
theorem dL_act_5 : decode cL_act 5 = .ok (.iload_n 1, 1) := by decide +kernel
theorem dL_act_6 : decode cL_act 6 = .ok (.ifCond .ne 7, 3) := by decide +kernel
theorem dL_act_9 : decode cL_act 9 = .ok (.iconst 0, 1) := by decide +kernel
theorem dL_act_10 : decode cL_act 10 = .ok (.goto 6, 3) := by decide +kernel
theorem dL_act_13 : decode cL_act 13 = .ok (.iload_n 3, 1) := by decide +kernel
theorem dL_act_14 : decode cL_act 14 = .ok (.iload_n 1, 1) := by decide +kernel
theorem dL_act_15 : decode cL_act 15 = .ok (.irem, 1) := by decide +kernel
theorem dL_act_16 : decode cL_act 16 = .ok (.istore 4, 2) := by decide +kernel
theorem dL_act_18 : decode cL_act 18 = .ok (.iload_n 3, 1) := by decide +kernel
theorem dL_act_19 : decode cL_act 19 = .ok (.bipush 40, 2) := by decide +kernel
theorem dL_act_21 : decode cL_act 21 = .ok (.idiv, 1) := by decide +kernel
theorem dL_act_22 : decode cL_act 22 = .ok (.iconst 3, 1) := by decide +kernel
theorem dL_act_23 : decode cL_act 23 = .ok (.irem, 1) := by decide +kernel
theorem dL_act_24 : decode cL_act 24 = .ok (.istore 5, 2) := by decide +kernel
theorem dL_act_26 : decode cL_act 26 = .ok (.aload_n 0, 1) := by decide +kernel
theorem dL_act_27 : decode cL_act 27 = .ok (.invokevirtual 88, 3) := by decide +kernel
theorem dL_act_30 : decode cL_act 30 = .ok (.iload_n 3, 1) := by decide +kernel
theorem dL_act_31 : decode cL_act 31 = .ok (.bipush 120, 2) := by decide +kernel
theorem dL_act_33 : decode cL_act 33 = .ok (.idiv, 1) := by decide +kernel
theorem dL_act_34 : decode cL_act 34 = .ok (.iconst 5, 1) := by decide +kernel
theorem dL_act_35 : decode cL_act 35 = .ok (.irem, 1) := by decide +kernel
theorem dL_act_36 : decode cL_act 36 = .ok (.isub, 1) := by decide +kernel
theorem dL_act_37 : decode cL_act 37 = .ok (.istore 6, 2) := by decide +kernel
theorem dL_act_39 : decode cL_act 39 = .ok (.iload_n 2, 1) := by decide +kernel
theorem dL_act_40 : decode cL_act 40 = .ok (.bipush 20, 2) := by decide +kernel
theorem dL_act_42 : decode cL_act 42 = .ok (.irem, 1) := by decide +kernel
theorem dL_act_43 : decode cL_act 43 = .ok (.tableswitch 352 0 17 #[85, 85, 85, 85, 173, 173, 173, 173, 204, 245, 264, 308, 308, 308, 315, 337, 337, 344], 85) := by decide +kernel
theorem dL_act_128 : decode cL_act 128 = .ok (.iload_n 3, 1) := by decide +kernel
theorem dL_act_129 : decode cL_act 129 = .ok (.iconst 2, 1) := by decide +kernel
theorem dL_act_130 : decode cL_act 130 = .ok (.irem, 1) := by decide +kernel
theorem dL_act_131 : decode cL_act 131 = .ok (.ifCond .ne 7, 3) := by decide +kernel
theorem dL_act_134 : decode cL_act 134 = .ok (.iconst 1, 1) := by decide +kernel
theorem dL_act_135 : decode cL_act 135 = .ok (.goto 4, 3) := by decide +kernel
theorem dL_act_138 : decode cL_act 138 = .ok (.iconst 0, 1) := by decide +kernel
theorem dL_act_139 : decode cL_act 139 = .ok (.istore 7, 2) := by decide +kernel
theorem dL_act_141 : decode cL_act 141 = .ok (.iload_n 3, 1) := by decide +kernel
theorem dL_act_142 : decode cL_act 142 = .ok (.bipush 12, 2) := by decide +kernel
theorem dL_act_144 : decode cL_act 144 = .ok (.idiv, 1) := by decide +kernel
theorem dL_act_145 : decode cL_act 145 = .ok (.bipush 12, 2) := by decide +kernel
theorem dL_act_147 : decode cL_act 147 = .ok (.irem, 1) := by decide +kernel
theorem dL_act_148 : decode cL_act 148 = .ok (.istore 8, 2) := by decide +kernel
theorem dL_act_150 : decode cL_act 150 = .ok (.iload_n 3, 1) := by decide +kernel
theorem dL_act_151 : decode cL_act 151 = .ok (.sipush 144, 3) := by decide +kernel
theorem dL_act_154 : decode cL_act 154 = .ok (.idiv, 1) := by decide +kernel
theorem dL_act_155 : decode cL_act 155 = .ok (.bipush 12, 2) := by decide +kernel
theorem dL_act_157 : decode cL_act 157 = .ok (.irem, 1) := by decide +kernel
theorem dL_act_158 : decode cL_act 158 = .ok (.istore 9, 2) := by decide +kernel
theorem dL_act_160 : decode cL_act 160 = .ok (.aload_n 0, 1) := by decide +kernel
theorem dL_act_161 : decode cL_act 161 = .ok (.iload_n 3, 1) := by decide +kernel
theorem dL_act_162 : decode cL_act 162 = .ok (.iconst 2, 1) := by decide +kernel
theorem dL_act_163 : decode cL_act 163 = .ok (.idiv, 1) := by decide +kernel
theorem dL_act_164 : decode cL_act 164 = .ok (.iconst 3, 1) := by decide +kernel
theorem dL_act_165 : decode cL_act 165 = .ok (.irem, 1) := by decide +kernel
theorem dL_act_166 : decode cL_act 166 = .ok (.iload_n 3, 1) := by decide +kernel
theorem dL_act_167 : decode cL_act 167 = .ok (.bipush 6, 2) := by decide +kernel
theorem dL_act_169 : decode cL_act 169 = .ok (.idiv, 1) := by decide +kernel
theorem dL_act_170 : decode cL_act 170 = .ok (.iconst 2, 1) := by decide +kernel
theorem dL_act_171 : decode cL_act 171 = .ok (.irem, 1) := by decide +kernel
theorem dL_act_172 : decode cL_act 172 = .ok (.iload 8, 2) := by decide +kernel
theorem dL_act_174 : decode cL_act 174 = .ok (.iload 9, 2) := by decide +kernel
theorem dL_act_176 : decode cL_act 176 = .ok (.iload 7, 2) := by decide +kernel
theorem dL_act_178 : decode cL_act 178 = .ok (.ifCond .eq 14, 3) := by decide +kernel
theorem dL_act_181 : decode cL_act 181 = .ok (.iload_n 3, 1) := by decide +kernel
theorem dL_act_182 : decode cL_act 182 = .ok (.sipush 1728, 3) := by decide +kernel
theorem dL_act_185 : decode cL_act 185 = .ok (.idiv, 1) := by decide +kernel
theorem dL_act_186 : decode cL_act 186 = .ok (.bipush 12, 2) := by decide +kernel
theorem dL_act_188 : decode cL_act 188 = .ok (.irem, 1) := by decide +kernel
theorem dL_act_189 : decode cL_act 189 = .ok (.goto 5, 3) := by decide +kernel
theorem dL_act_192 : decode cL_act 192 = .ok (.iload 8, 2) := by decide +kernel
theorem dL_act_194 : decode cL_act 194 = .ok (.iload 7, 2) := by decide +kernel
theorem dL_act_196 : decode cL_act 196 = .ok (.ifCond .eq 8, 3) := by decide +kernel
theorem dL_act_199 : decode cL_act 199 = .ok (.iload 9, 2) := by decide +kernel
theorem dL_act_201 : decode cL_act 201 = .ok (.goto 11, 3) := by decide +kernel
theorem dL_act_204 : decode cL_act 204 = .ok (.iload_n 3, 1) := by decide +kernel
theorem dL_act_205 : decode cL_act 205 = .ok (.sipush 1728, 3) := by decide +kernel
theorem dL_act_208 : decode cL_act 208 = .ok (.idiv, 1) := by decide +kernel
theorem dL_act_209 : decode cL_act 209 = .ok (.bipush 12, 2) := by decide +kernel
theorem dL_act_211 : decode cL_act 211 = .ok (.irem, 1) := by decide +kernel
theorem dL_act_212 : decode cL_act 212 = .ok (.invokestatic 92, 3) := by decide +kernel
theorem dL_act_215 : decode cL_act 215 = .ok (.ireturn, 1) := by decide +kernel
theorem dL_act_216 : decode cL_act 216 = .ok (.aload_n 0, 1) := by decide +kernel
theorem dL_act_217 : decode cL_act 217 = .ok (.iload 5, 2) := by decide +kernel
theorem dL_act_219 : decode cL_act 219 = .ok (.iload 6, 2) := by decide +kernel
theorem dL_act_221 : decode cL_act 221 = .ok (.iload 4, 2) := by decide +kernel
theorem dL_act_223 : decode cL_act 223 = .ok (.iload_n 3, 1) := by decide +kernel
theorem dL_act_224 : decode cL_act 224 = .ok (.sipush 600, 3) := by decide +kernel
theorem dL_act_227 : decode cL_act 227 = .ok (.idiv, 1) := by decide +kernel
theorem dL_act_228 : decode cL_act 228 = .ok (.bipush 7, 2) := by decide +kernel
theorem dL_act_230 : decode cL_act 230 = .ok (.irem, 1) := by decide +kernel
theorem dL_act_231 : decode cL_act 231 = .ok (.iconst 3, 1) := by decide +kernel
theorem dL_act_232 : decode cL_act 232 = .ok (.isub, 1) := by decide +kernel
theorem dL_act_233 : decode cL_act 233 = .ok (.iload_n 3, 1) := by decide +kernel
theorem dL_act_234 : decode cL_act 234 = .ok (.sipush 4200, 3) := by decide +kernel
theorem dL_act_237 : decode cL_act 237 = .ok (.idiv, 1) := by decide +kernel
theorem dL_act_238 : decode cL_act 238 = .ok (.bipush 7, 2) := by decide +kernel
theorem dL_act_240 : decode cL_act 240 = .ok (.irem, 1) := by decide +kernel
theorem dL_act_241 : decode cL_act 241 = .ok (.iconst 3, 1) := by decide +kernel
theorem dL_act_242 : decode cL_act 242 = .ok (.isub, 1) := by decide +kernel
theorem dL_act_243 : decode cL_act 243 = .ok (.invokestatic 97, 3) := by decide +kernel
theorem dL_act_246 : decode cL_act 246 = .ok (.ireturn, 1) := by decide +kernel
theorem dL_act_247 : decode cL_act 247 = .ok (.iload_n 3, 1) := by decide +kernel
theorem dL_act_248 : decode cL_act 248 = .ok (.iconst 2, 1) := by decide +kernel
theorem dL_act_249 : decode cL_act 249 = .ok (.irem, 1) := by decide +kernel
theorem dL_act_250 : decode cL_act 250 = .ok (.ifCond .ne 16, 3) := by decide +kernel
theorem dL_act_253 : decode cL_act 253 = .ok (.aload_n 0, 1) := by decide +kernel
theorem dL_act_254 : decode cL_act 254 = .ok (.iload 5, 2) := by decide +kernel
theorem dL_act_256 : decode cL_act 256 = .ok (.iload 6, 2) := by decide +kernel
theorem dL_act_258 : decode cL_act 258 = .ok (.iload 4, 2) := by decide +kernel
theorem dL_act_260 : decode cL_act 260 = .ok (.invokestatic 100, 3) := by decide +kernel
theorem dL_act_263 : decode cL_act 263 = .ok (.goto 24, 3) := by decide +kernel
theorem dL_act_266 : decode cL_act 266 = .ok (.aload_n 0, 1) := by decide +kernel
theorem dL_act_267 : decode cL_act 267 = .ok (.iload_n 3, 1) := by decide +kernel
theorem dL_act_268 : decode cL_act 268 = .ok (.iconst 2, 1) := by decide +kernel
theorem dL_act_269 : decode cL_act 269 = .ok (.idiv, 1) := by decide +kernel
theorem dL_act_270 : decode cL_act 270 = .ok (.iconst 3, 1) := by decide +kernel
theorem dL_act_271 : decode cL_act 271 = .ok (.irem, 1) := by decide +kernel
theorem dL_act_272 : decode cL_act 272 = .ok (.iload_n 3, 1) := by decide +kernel
theorem dL_act_273 : decode cL_act 273 = .ok (.bipush 6, 2) := by decide +kernel
theorem dL_act_275 : decode cL_act 275 = .ok (.idiv, 1) := by decide +kernel
theorem dL_act_276 : decode cL_act 276 = .ok (.iconst 3, 1) := by decide +kernel
theorem dL_act_277 : decode cL_act 277 = .ok (.irem, 1) := by decide +kernel
theorem dL_act_278 : decode cL_act 278 = .ok (.iload_n 3, 1) := by decide +kernel
theorem dL_act_279 : decode cL_act 279 = .ok (.bipush 18, 2) := by decide +kernel
theorem dL_act_281 : decode cL_act 281 = .ok (.idiv, 1) := by decide +kernel
theorem dL_act_282 : decode cL_act 282 = .ok (.iconst 4, 1) := by decide +kernel
theorem dL_act_283 : decode cL_act 283 = .ok (.irem, 1) := by decide +kernel
theorem dL_act_284 : decode cL_act 284 = .ok (.invokestatic 103, 3) := by decide +kernel
theorem dL_act_287 : decode cL_act 287 = .ok (.ireturn, 1) := by decide +kernel
theorem dL_act_288 : decode cL_act 288 = .ok (.aload_n 0, 1) := by decide +kernel
theorem dL_act_289 : decode cL_act 289 = .ok (.iload_n 3, 1) := by decide +kernel
theorem dL_act_290 : decode cL_act 290 = .ok (.iconst 3, 1) := by decide +kernel
theorem dL_act_291 : decode cL_act 291 = .ok (.irem, 1) := by decide +kernel
theorem dL_act_292 : decode cL_act 292 = .ok (.iload_n 3, 1) := by decide +kernel
theorem dL_act_293 : decode cL_act 293 = .ok (.iconst 3, 1) := by decide +kernel
theorem dL_act_294 : decode cL_act 294 = .ok (.idiv, 1) := by decide +kernel
theorem dL_act_295 : decode cL_act 295 = .ok (.iconst 3, 1) := by decide +kernel
theorem dL_act_296 : decode cL_act 296 = .ok (.irem, 1) := by decide +kernel
theorem dL_act_297 : decode cL_act 297 = .ok (.iload_n 3, 1) := by decide +kernel
theorem dL_act_298 : decode cL_act 298 = .ok (.bipush 9, 2) := by decide +kernel
theorem dL_act_300 : decode cL_act 300 = .ok (.idiv, 1) := by decide +kernel
theorem dL_act_301 : decode cL_act 301 = .ok (.iconst 4, 1) := by decide +kernel
theorem dL_act_302 : decode cL_act 302 = .ok (.irem, 1) := by decide +kernel
theorem dL_act_303 : decode cL_act 303 = .ok (.invokestatic 103, 3) := by decide +kernel
theorem dL_act_306 : decode cL_act 306 = .ok (.ireturn, 1) := by decide +kernel
theorem dL_act_307 : decode cL_act 307 = .ok (.iload_n 3, 1) := by decide +kernel
theorem dL_act_308 : decode cL_act 308 = .ok (.iconst 2, 1) := by decide +kernel
theorem dL_act_309 : decode cL_act 309 = .ok (.irem, 1) := by decide +kernel
theorem dL_act_310 : decode cL_act 310 = .ok (.ifCond .ne 24, 3) := by decide +kernel
theorem dL_act_313 : decode cL_act 313 = .ok (.aload_n 0, 1) := by decide +kernel
theorem dL_act_314 : decode cL_act 314 = .ok (.iload_n 3, 1) := by decide +kernel
theorem dL_act_315 : decode cL_act 315 = .ok (.iconst 2, 1) := by decide +kernel
theorem dL_act_316 : decode cL_act 316 = .ok (.idiv, 1) := by decide +kernel
theorem dL_act_317 : decode cL_act 317 = .ok (.iconst 3, 1) := by decide +kernel
theorem dL_act_318 : decode cL_act 318 = .ok (.irem, 1) := by decide +kernel
theorem dL_act_319 : decode cL_act 319 = .ok (.iconst 1, 1) := by decide +kernel
theorem dL_act_320 : decode cL_act 320 = .ok (.iload_n 3, 1) := by decide +kernel
theorem dL_act_321 : decode cL_act 321 = .ok (.bipush 6, 2) := by decide +kernel
theorem dL_act_323 : decode cL_act 323 = .ok (.idiv, 1) := by decide +kernel
theorem dL_act_324 : decode cL_act 324 = .ok (.bipush 12, 2) := by decide +kernel
theorem dL_act_326 : decode cL_act 326 = .ok (.irem, 1) := by decide +kernel
theorem dL_act_327 : decode cL_act 327 = .ok (.iadd, 1) := by decide +kernel
theorem dL_act_328 : decode cL_act 328 = .ok (.invokestatic 105, 3) := by decide +kernel
theorem dL_act_331 : decode cL_act 331 = .ok (.goto 19, 3) := by decide +kernel
theorem dL_act_334 : decode cL_act 334 = .ok (.aload_n 0, 1) := by decide +kernel
theorem dL_act_335 : decode cL_act 335 = .ok (.iload_n 3, 1) := by decide +kernel
theorem dL_act_336 : decode cL_act 336 = .ok (.iconst 2, 1) := by decide +kernel
theorem dL_act_337 : decode cL_act 337 = .ok (.idiv, 1) := by decide +kernel
theorem dL_act_338 : decode cL_act 338 = .ok (.iconst 3, 1) := by decide +kernel
theorem dL_act_339 : decode cL_act 339 = .ok (.irem, 1) := by decide +kernel
theorem dL_act_340 : decode cL_act 340 = .ok (.iload_n 3, 1) := by decide +kernel
theorem dL_act_341 : decode cL_act 341 = .ok (.bipush 6, 2) := by decide +kernel
theorem dL_act_343 : decode cL_act 343 = .ok (.idiv, 1) := by decide +kernel
theorem dL_act_344 : decode cL_act 344 = .ok (.bipush 9, 2) := by decide +kernel
theorem dL_act_346 : decode cL_act 346 = .ok (.irem, 1) := by decide +kernel
theorem dL_act_347 : decode cL_act 347 = .ok (.invokestatic 108, 3) := by decide +kernel
theorem dL_act_350 : decode cL_act 350 = .ok (.ireturn, 1) := by decide +kernel
theorem dL_act_351 : decode cL_act 351 = .ok (.aload_n 0, 1) := by decide +kernel
theorem dL_act_352 : decode cL_act 352 = .ok (.iload 4, 2) := by decide +kernel
theorem dL_act_354 : decode cL_act 354 = .ok (.invokestatic 110, 3) := by decide +kernel
theorem dL_act_357 : decode cL_act 357 = .ok (.ireturn, 1) := by decide +kernel
theorem dL_act_358 : decode cL_act 358 = .ok (.iload_n 3, 1) := by decide +kernel
theorem dL_act_359 : decode cL_act 359 = .ok (.iconst 3, 1) := by decide +kernel
theorem dL_act_360 : decode cL_act 360 = .ok (.irem, 1) := by decide +kernel
theorem dL_act_361 : decode cL_act 361 = .ok (.ifCond .ne 12, 3) := by decide +kernel
theorem dL_act_364 : decode cL_act 364 = .ok (.aload_n 0, 1) := by decide +kernel
theorem dL_act_365 : decode cL_act 365 = .ok (.iload 4, 2) := by decide +kernel
theorem dL_act_367 : decode cL_act 367 = .ok (.invokestatic 113, 3) := by decide +kernel
theorem dL_act_370 : decode cL_act 370 = .ok (.goto 9, 3) := by decide +kernel
theorem dL_act_373 : decode cL_act 373 = .ok (.aload_n 0, 1) := by decide +kernel
theorem dL_act_374 : decode cL_act 374 = .ok (.iload 4, 2) := by decide +kernel
theorem dL_act_376 : decode cL_act 376 = .ok (.invokestatic 110, 3) := by decide +kernel
theorem dL_act_379 : decode cL_act 379 = .ok (.ireturn, 1) := by decide +kernel
theorem dL_act_380 : decode cL_act 380 = .ok (.aload_n 0, 1) := by decide +kernel
theorem dL_act_381 : decode cL_act 381 = .ok (.iload 4, 2) := by decide +kernel
theorem dL_act_383 : decode cL_act 383 = .ok (.invokestatic 115, 3) := by decide +kernel
theorem dL_act_386 : decode cL_act 386 = .ok (.ireturn, 1) := by decide +kernel
theorem dL_act_387 : decode cL_act 387 = .ok (.aload_n 0, 1) := by decide +kernel
theorem dL_act_388 : decode cL_act 388 = .ok (.iload_n 3, 1) := by decide +kernel
theorem dL_act_389 : decode cL_act 389 = .ok (.iconst 2, 1) := by decide +kernel
theorem dL_act_390 : decode cL_act 390 = .ok (.irem, 1) := by decide +kernel
theorem dL_act_391 : decode cL_act 391 = .ok (.invokestatic 117, 3) := by decide +kernel
theorem dL_act_394 : decode cL_act 394 = .ok (.ireturn, 1) := by decide +kernel
theorem dL_act_395 : decode cL_act 395 = .ok (.aload_n 0, 1) := by decide +kernel
theorem dL_act_396 : decode cL_act 396 = .ok (.iconst 1, 1) := by decide +kernel
theorem dL_act_397 : decode cL_act 397 = .ok (.iload_n 3, 1) := by decide +kernel
theorem dL_act_398 : decode cL_act 398 = .ok (.bipush 7, 2) := by decide +kernel
theorem dL_act_400 : decode cL_act 400 = .ok (.irem, 1) := by decide +kernel
theorem dL_act_401 : decode cL_act 401 = .ok (.iadd, 1) := by decide +kernel
theorem dL_act_402 : decode cL_act 402 = .ok (.invokestatic 119, 3) := by decide +kernel
theorem dL_act_405 : decode cL_act 405 = .ok (.ireturn, 1) := by decide +kernel
set_option maxRecDepth 20000 in
theorem ggL_isAlike_X1_day : GoodIn wsL_isAlike wsX1_day := goodIn_r _ [5, 6, 170, 171, 172, 173, 174, 175, 176, 177] (by decide +kernel) (by decide +kernel)
set_option maxRecDepth 20000 in
theorem gL_isAlike_X1_day : GoodIn wsL_isAlike (wsV RL 140 RX1 yX1_day wsX1_day) := goodIn_app (goodIn_of _ (by decide +kernel)) ggL_isAlike_X1_day
set_option maxRecDepth 20000 in
theorem ggL_isAlike_X1_revision : GoodIn wsL_isAlike wsX1_revision := goodIn_r _ [10, 11, 170, 171, 172, 173, 174, 175, 176, 177] (by decide +kernel) (by decide +kernel)
set_option maxRecDepth 20000 in
theorem gL_isAlike_X1_revision : GoodIn wsL_isAlike (wsV RL 88 RX1 yX1_revision wsX1_revision) := goodIn_app (goodIn_of _ (by decide +kernel)) ggL_isAlike_X1_revision
set_option maxRecDepth 20000 in
theorem ggL_isAlike_L_clash : GoodIn wsL_isAlike wsL_clash := goodIn_ca (goodIn_r _ [15, 16, 17, 18, 19, 20, 4, 21, 22, 23, 24, 25, 26, 27, 28, 29, 30, 31, 32, 33, 34, 35, 36, 37, 38, 39, 40, 41, 42, 43, 44, 45, 46, 47, 48, 49, 50, 51, 52, 53, 54, 55, 56, 57, 58, 59, 60, 61, 62, 63, 64, 65, 66, 67, 68, 69, 170, 171, 172, 173, 174, 175, 176, 177, 178, 179, 180, 181, 182, 183, 184, 185, 186, 187] (by decide +kernel) (by decide +kernel)) (goodIn_sub (fun _ h => List.mem_cons_of_mem _ (List.mem_append_left _ (List.mem_append_right _ h))) (by decide +kernel))
set_option maxRecDepth 20000 in
theorem gL_isAlike_L_clash : GoodIn wsL_isAlike (va_wsS RL 123 yL_clash wsL_clash) := goodIn_app (goodIn_of _ (by decide +kernel)) ggL_isAlike_L_clash
set_option maxRecDepth 20000 in
theorem ggL_isAlike_L_clashes : GoodIn wsL_isAlike wsL_clashes := goodIn_ca (goodIn_r _ [72, 16, 17, 73, 74, 75, 4, 76, 22, 23, 77, 78, 79, 80, 29, 30, 31, 81, 82, 83, 84, 36, 24, 25, 26, 27, 28, 85, 86, 87, 88, 32, 33, 34, 35, 37, 38, 39, 40, 41, 42, 43, 44, 45, 46, 47, 48, 49, 50, 51, 52, 53, 54, 55, 56, 57, 58, 59, 60, 61, 62, 63, 64, 65, 66, 67, 68, 69, 170, 171, 172, 173, 174, 175, 176, 177, 178, 179, 180, 181, 182, 183, 184, 185, 186, 187] (by decide +kernel) (by decide +kernel)) (goodIn_sub (fun _ h => List.mem_cons_of_mem _ (List.mem_append_left _ (List.mem_append_right _ h))) (by decide +kernel))
set_option maxRecDepth 20000 in
theorem gL_isAlike_L_clashes : GoodIn wsL_isAlike (va_wsS RL 125 yL_clashes wsL_clashes) := goodIn_app (goodIn_of _ (by decide +kernel)) ggL_isAlike_L_clashes
set_option maxRecDepth 20000 in
theorem ggL_isAlike_L_isStopped : GoodIn wsL_isAlike wsL_isStopped := goodIn_ca (goodIn_r _ [91, 16, 17, 92, 93, 94, 4, 95, 22, 23, 77, 37, 36, 67, 68, 69, 29, 30, 31, 78, 79, 80, 24, 25, 26, 27, 28, 96, 97, 98, 99, 32, 33, 34, 35, 38, 39, 40, 41, 42, 43, 44, 45, 46, 47, 48, 49, 50, 51, 52, 53, 54, 55, 56, 57, 58, 59, 60, 61, 62, 63, 64, 65, 66, 170, 171, 172, 173, 174, 175, 176, 177, 178, 179, 180, 181, 182, 183, 184, 185, 186, 187] (by decide +kernel) (by decide +kernel)) (goodIn_sub (fun _ h => List.mem_cons_of_mem _ (List.mem_append_left _ (List.mem_append_right _ h))) (by decide +kernel))
set_option maxRecDepth 20000 in
theorem gL_isAlike_L_isStopped : GoodIn wsL_isAlike (va_wsS RL 127 yL_isStopped wsL_isStopped) := goodIn_app (goodIn_of _ (by decide +kernel)) ggL_isAlike_L_isStopped
set_option maxRecDepth 20000 in
theorem ggL_isAlike_L_parts : GoodIn wsL_isAlike wsL_parts := goodIn_ca (goodIn_r _ [102, 16, 17, 103, 104, 105, 4, 106, 22, 23, 67, 68, 69, 29, 30, 31, 107, 108, 109, 110, 77, 37, 111, 24, 25, 26, 27, 28, 112, 113, 114, 115, 116, 117, 118, 119, 41, 120, 49, 48, 121, 122, 54, 123, 51, 50, 170, 171, 172, 173, 174, 175, 176, 177, 178, 179, 180, 181, 182, 183, 184, 185, 186, 187] (by decide +kernel) (by decide +kernel)) (goodIn_sub (fun _ h => List.mem_cons_of_mem _ (List.mem_append_left _ (List.mem_append_right _ h))) (by decide +kernel))
set_option maxRecDepth 20000 in
theorem gL_isAlike_L_parts : GoodIn wsL_isAlike (va_wsS RL 129 yL_parts wsL_parts) := goodIn_app (goodIn_of _ (by decide +kernel)) ggL_isAlike_L_parts
set_option maxRecDepth 20000 in
theorem ggL_isAlike_L_ordered : GoodIn wsL_isAlike wsL_ordered := goodIn_ca (goodIn_r _ [126, 16, 17, 127, 128, 129, 4, 130, 22, 23, 67, 68, 69, 29, 30, 31, 107, 108, 109, 110, 77, 37, 111, 24, 25, 26, 27, 28, 112, 113, 114, 115, 116, 117, 118, 119, 41, 120, 49, 48, 121, 122, 54, 123, 51, 50, 170, 171, 172, 173, 174, 175, 176, 177, 178, 179, 180, 181, 182, 183, 184, 185, 186, 187] (by decide +kernel) (by decide +kernel)) (goodIn_sub (fun _ h => List.mem_cons_of_mem _ (List.mem_append_left _ (List.mem_append_right _ h))) (by decide +kernel))
set_option maxRecDepth 20000 in
theorem gL_isAlike_L_ordered : GoodIn wsL_isAlike (va_wsS RL 134 yL_ordered wsL_ordered) := goodIn_app (goodIn_of _ (by decide +kernel)) ggL_isAlike_L_ordered
set_option maxRecDepth 20000 in
theorem ggL_isAlike_L_isLocked : GoodIn wsL_isAlike wsL_isLocked := goodIn_ca (goodIn_r _ [133, 16, 17, 134, 135, 136, 4, 137, 22, 23, 138, 78, 79, 80, 29, 30, 31, 170, 171, 172, 173, 174, 175, 176, 177] (by decide +kernel) (by decide +kernel)) (goodIn_sub (fun _ h => List.mem_cons_of_mem _ (List.mem_append_left _ (List.mem_append_right _ h))) (by decide +kernel))
set_option maxRecDepth 20000 in
theorem gL_isAlike_L_isLocked : GoodIn wsL_isAlike (va_wsS RL 138 yL_isLocked wsL_isLocked) := goodIn_app (goodIn_of _ (by decide +kernel)) ggL_isAlike_L_isLocked
set_option maxRecDepth 20000 in
theorem ggL_isAlike_L_elementOf : GoodIn wsL_isAlike wsL_elementOf := goodIn_ca (goodIn_ca (goodIn_r _ [141, 16, 142, 17, 143, 144, 145, 146, 4, 147, 22, 23, 148, 149, 37, 36, 150, 151, 152, 153, 111, 154, 155, 24, 25, 26, 27, 28, 29, 30, 31, 117, 118, 119, 41, 120, 49, 48, 121, 122, 54, 123, 51, 50, 178, 179, 180, 181, 182, 183, 184, 185, 186, 187, 170, 171, 172, 173, 174, 175, 176, 177] (by decide +kernel) (by decide +kernel)) (goodIn_sub (fun _ h => List.mem_cons_of_mem _ (List.mem_append_left _ (List.mem_append_right _ h))) (by decide +kernel))) (goodIn_sub (fun _ h => List.mem_cons_of_mem _ (List.mem_append_right _ h)) (by decide +kernel))
set_option maxRecDepth 20000 in
theorem gL_isAlike_L_elementOf : GoodIn wsL_isAlike (va_wsS RL 121 yL_elementOf wsL_elementOf) := goodIn_app (goodIn_of _ (by decide +kernel)) ggL_isAlike_L_elementOf
set_option maxRecDepth 20000 in
theorem ggL_isAlike_L_kindsAt : GoodIn wsL_isAlike wsL_kindsAt := goodIn_ca (goodIn_ca (goodIn_r _ [158, 16, 142, 17, 143, 159, 160, 161, 4, 162, 22, 23, 148, 149, 77, 36, 37, 78, 79, 80, 29, 30, 31, 163, 164, 165, 24, 25, 26, 27, 28, 38, 39, 40, 41, 42, 43, 166, 167, 168, 169, 48, 49, 59, 60, 54, 61, 52, 53, 55, 50, 51, 170, 171, 172, 173, 174, 175, 176, 177, 178, 179, 180, 181, 182, 183, 184, 185, 186, 187] (by decide +kernel) (by decide +kernel)) (goodIn_sub (fun _ h => List.mem_cons_of_mem _ (List.mem_append_left _ (List.mem_append_right _ h))) (by decide +kernel))) (goodIn_sub (fun _ h => List.mem_cons_of_mem _ (List.mem_append_right _ h)) (by decide +kernel))
set_option maxRecDepth 20000 in
theorem gL_isAlike_L_kindsAt : GoodIn wsL_isAlike (va_wsS RL 136 yL_kindsAt wsL_kindsAt) := goodIn_app (goodIn_of _ (by decide +kernel)) ggL_isAlike_L_kindsAt
theorem dL_isAlike_0 : decode cL_isAlike 0 = .ok (.iload_n 2, 1) := by decide +kernel
theorem dL_isAlike_1 : decode cL_isAlike 1 = .ok (.ifCond .ne 7, 3) := by decide +kernel
theorem dL_isAlike_4 : decode cL_isAlike 4 = .ok (.iconst 0, 1) := by decide +kernel
theorem dL_isAlike_5 : decode cL_isAlike 5 = .ok (.goto 6, 3) := by decide +kernel
theorem dL_isAlike_8 : decode cL_isAlike 8 = .ok (.iload_n 3, 1) := by decide +kernel
theorem dL_isAlike_9 : decode cL_isAlike 9 = .ok (.iload_n 2, 1) := by decide +kernel
theorem dL_isAlike_10 : decode cL_isAlike 10 = .ok (.irem, 1) := by decide +kernel
theorem dL_isAlike_11 : decode cL_isAlike 11 = .ok (.istore 4, 2) := by decide +kernel
theorem dL_isAlike_13 : decode cL_isAlike 13 = .ok (.aload_n 0, 1) := by decide +kernel
theorem dL_isAlike_14 : decode cL_isAlike 14 = .ok (.invokevirtual 140, 3) := by decide +kernel
theorem dL_isAlike_17 : decode cL_isAlike 17 = .ok (.aload_n 1, 1) := by decide +kernel
theorem dL_isAlike_18 : decode cL_isAlike 18 = .ok (.invokevirtual 140, 3) := by decide +kernel
theorem dL_isAlike_21 : decode cL_isAlike 21 = .ok (.if_icmp .ne 126, 3) := by decide +kernel
theorem dL_isAlike_24 : decode cL_isAlike 24 = .ok (.aload_n 0, 1) := by decide +kernel
theorem dL_isAlike_25 : decode cL_isAlike 25 = .ok (.invokevirtual 88, 3) := by decide +kernel
theorem dL_isAlike_28 : decode cL_isAlike 28 = .ok (.aload_n 1, 1) := by decide +kernel
theorem dL_isAlike_29 : decode cL_isAlike 29 = .ok (.invokevirtual 88, 3) := by decide +kernel
theorem dL_isAlike_32 : decode cL_isAlike 32 = .ok (.if_icmp .ne 115, 3) := by decide +kernel
theorem dL_isAlike_35 : decode cL_isAlike 35 = .ok (.aload_n 0, 1) := by decide +kernel
theorem dL_isAlike_36 : decode cL_isAlike 36 = .ok (.iload 4, 2) := by decide +kernel
theorem dL_isAlike_38 : decode cL_isAlike 38 = .ok (.iconst 0, 1) := by decide +kernel
theorem dL_isAlike_39 : decode cL_isAlike 39 = .ok (.invokestatic 123, 3) := by decide +kernel
theorem dL_isAlike_42 : decode cL_isAlike 42 = .ok (.aload_n 1, 1) := by decide +kernel
theorem dL_isAlike_43 : decode cL_isAlike 43 = .ok (.iload 4, 2) := by decide +kernel
theorem dL_isAlike_45 : decode cL_isAlike 45 = .ok (.iconst 0, 1) := by decide +kernel
theorem dL_isAlike_46 : decode cL_isAlike 46 = .ok (.invokestatic 123, 3) := by decide +kernel
theorem dL_isAlike_49 : decode cL_isAlike 49 = .ok (.if_icmp .ne 98, 3) := by decide +kernel
theorem dL_isAlike_52 : decode cL_isAlike 52 = .ok (.aload_n 0, 1) := by decide +kernel
theorem dL_isAlike_53 : decode cL_isAlike 53 = .ok (.iload_n 3, 1) := by decide +kernel
theorem dL_isAlike_54 : decode cL_isAlike 54 = .ok (.iconst 4, 1) := by decide +kernel
theorem dL_isAlike_55 : decode cL_isAlike 55 = .ok (.irem, 1) := by decide +kernel
theorem dL_isAlike_56 : decode cL_isAlike 56 = .ok (.invokestatic 125, 3) := by decide +kernel
theorem dL_isAlike_59 : decode cL_isAlike 59 = .ok (.aload_n 1, 1) := by decide +kernel
theorem dL_isAlike_60 : decode cL_isAlike 60 = .ok (.iload_n 3, 1) := by decide +kernel
theorem dL_isAlike_61 : decode cL_isAlike 61 = .ok (.iconst 4, 1) := by decide +kernel
theorem dL_isAlike_62 : decode cL_isAlike 62 = .ok (.irem, 1) := by decide +kernel
theorem dL_isAlike_63 : decode cL_isAlike 63 = .ok (.invokestatic 125, 3) := by decide +kernel
theorem dL_isAlike_66 : decode cL_isAlike 66 = .ok (.if_icmp .ne 81, 3) := by decide +kernel
theorem dL_isAlike_69 : decode cL_isAlike 69 = .ok (.aload_n 0, 1) := by decide +kernel
theorem dL_isAlike_70 : decode cL_isAlike 70 = .ok (.iload_n 3, 1) := by decide +kernel
theorem dL_isAlike_71 : decode cL_isAlike 71 = .ok (.iconst 3, 1) := by decide +kernel
theorem dL_isAlike_72 : decode cL_isAlike 72 = .ok (.irem, 1) := by decide +kernel
theorem dL_isAlike_73 : decode cL_isAlike 73 = .ok (.iload_n 3, 1) := by decide +kernel
theorem dL_isAlike_74 : decode cL_isAlike 74 = .ok (.iconst 2, 1) := by decide +kernel
theorem dL_isAlike_75 : decode cL_isAlike 75 = .ok (.irem, 1) := by decide +kernel
theorem dL_isAlike_76 : decode cL_isAlike 76 = .ok (.invokestatic 127, 3) := by decide +kernel
theorem dL_isAlike_79 : decode cL_isAlike 79 = .ok (.aload_n 1, 1) := by decide +kernel
theorem dL_isAlike_80 : decode cL_isAlike 80 = .ok (.iload_n 3, 1) := by decide +kernel
theorem dL_isAlike_81 : decode cL_isAlike 81 = .ok (.iconst 3, 1) := by decide +kernel
theorem dL_isAlike_82 : decode cL_isAlike 82 = .ok (.irem, 1) := by decide +kernel
theorem dL_isAlike_83 : decode cL_isAlike 83 = .ok (.iload_n 3, 1) := by decide +kernel
theorem dL_isAlike_84 : decode cL_isAlike 84 = .ok (.iconst 2, 1) := by decide +kernel
theorem dL_isAlike_85 : decode cL_isAlike 85 = .ok (.irem, 1) := by decide +kernel
theorem dL_isAlike_86 : decode cL_isAlike 86 = .ok (.invokestatic 127, 3) := by decide +kernel
theorem dL_isAlike_89 : decode cL_isAlike 89 = .ok (.if_icmp .ne 58, 3) := by decide +kernel
theorem dL_isAlike_92 : decode cL_isAlike 92 = .ok (.aload_n 0, 1) := by decide +kernel
theorem dL_isAlike_93 : decode cL_isAlike 93 = .ok (.iload_n 3, 1) := by decide +kernel
theorem dL_isAlike_94 : decode cL_isAlike 94 = .ok (.iconst 3, 1) := by decide +kernel
theorem dL_isAlike_95 : decode cL_isAlike 95 = .ok (.irem, 1) := by decide +kernel
theorem dL_isAlike_96 : decode cL_isAlike 96 = .ok (.invokestatic 129, 3) := by decide +kernel
theorem dL_isAlike_99 : decode cL_isAlike 99 = .ok (.aload_n 1, 1) := by decide +kernel
theorem dL_isAlike_100 : decode cL_isAlike 100 = .ok (.iload_n 3, 1) := by decide +kernel
theorem dL_isAlike_101 : decode cL_isAlike 101 = .ok (.iconst 3, 1) := by decide +kernel
theorem dL_isAlike_102 : decode cL_isAlike 102 = .ok (.irem, 1) := by decide +kernel
theorem dL_isAlike_103 : decode cL_isAlike 103 = .ok (.invokestatic 129, 3) := by decide +kernel
theorem dL_isAlike_106 : decode cL_isAlike 106 = .ok (.if_icmp .ne 41, 3) := by decide +kernel
theorem dL_isAlike_109 : decode cL_isAlike 109 = .ok (.aload_n 0, 1) := by decide +kernel
theorem dL_isAlike_110 : decode cL_isAlike 110 = .ok (.iload_n 3, 1) := by decide +kernel
theorem dL_isAlike_111 : decode cL_isAlike 111 = .ok (.iconst 3, 1) := by decide +kernel
theorem dL_isAlike_112 : decode cL_isAlike 112 = .ok (.irem, 1) := by decide +kernel
theorem dL_isAlike_113 : decode cL_isAlike 113 = .ok (.invokestatic 134, 3) := by decide +kernel
theorem dL_isAlike_116 : decode cL_isAlike 116 = .ok (.aload_n 1, 1) := by decide +kernel
theorem dL_isAlike_117 : decode cL_isAlike 117 = .ok (.iload_n 3, 1) := by decide +kernel
theorem dL_isAlike_118 : decode cL_isAlike 118 = .ok (.iconst 3, 1) := by decide +kernel
theorem dL_isAlike_119 : decode cL_isAlike 119 = .ok (.irem, 1) := by decide +kernel
theorem dL_isAlike_120 : decode cL_isAlike 120 = .ok (.invokestatic 134, 3) := by decide +kernel
theorem dL_isAlike_123 : decode cL_isAlike 123 = .ok (.if_icmp .ne 24, 3) := by decide +kernel
theorem dL_isAlike_126 : decode cL_isAlike 126 = .ok (.aload_n 0, 1) := by decide +kernel
theorem dL_isAlike_127 : decode cL_isAlike 127 = .ok (.iload_n 3, 1) := by decide +kernel
theorem dL_isAlike_128 : decode cL_isAlike 128 = .ok (.iconst 4, 1) := by decide +kernel
theorem dL_isAlike_129 : decode cL_isAlike 129 = .ok (.irem, 1) := by decide +kernel
theorem dL_isAlike_130 : decode cL_isAlike 130 = .ok (.invokestatic 138, 3) := by decide +kernel
theorem dL_isAlike_133 : decode cL_isAlike 133 = .ok (.aload_n 1, 1) := by decide +kernel
theorem dL_isAlike_134 : decode cL_isAlike 134 = .ok (.iload_n 3, 1) := by decide +kernel
theorem dL_isAlike_135 : decode cL_isAlike 135 = .ok (.iconst 4, 1) := by decide +kernel
theorem dL_isAlike_136 : decode cL_isAlike 136 = .ok (.irem, 1) := by decide +kernel
theorem dL_isAlike_137 : decode cL_isAlike 137 = .ok (.invokestatic 138, 3) := by decide +kernel
theorem dL_isAlike_140 : decode cL_isAlike 140 = .ok (.if_icmp .ne 7, 3) := by decide +kernel
theorem dL_isAlike_143 : decode cL_isAlike 143 = .ok (.iconst 1, 1) := by decide +kernel
theorem dL_isAlike_144 : decode cL_isAlike 144 = .ok (.goto 4, 3) := by decide +kernel
theorem dL_isAlike_147 : decode cL_isAlike 147 = .ok (.iconst 0, 1) := by decide +kernel
theorem dL_isAlike_148 : decode cL_isAlike 148 = .ok (.istore 5, 2) := by decide +kernel
theorem dL_isAlike_150 : decode cL_isAlike 150 = .ok (.iconst 0, 1) := by decide +kernel
theorem dL_isAlike_151 : decode cL_isAlike 151 = .ok (.istore 6, 2) := by decide +kernel
theorem dL_isAlike_153 : decode cL_isAlike 153 = .ok (.iload 6, 2) := by decide +kernel
theorem dL_isAlike_155 : decode cL_isAlike 155 = .ok (.bipush 10, 2) := by decide +kernel
theorem dL_isAlike_157 : decode cL_isAlike 157 = .ok (.if_icmp .ge 75, 3) := by decide +kernel
theorem dL_isAlike_160 : decode cL_isAlike 160 = .ok (.iload 5, 2) := by decide +kernel
theorem dL_isAlike_162 : decode cL_isAlike 162 = .ok (.ifCond .eq 70, 3) := by decide +kernel
theorem dL_isAlike_165 : decode cL_isAlike 165 = .ok (.aload_n 0, 1) := by decide +kernel
theorem dL_isAlike_166 : decode cL_isAlike 166 = .ok (.iload 4, 2) := by decide +kernel
theorem dL_isAlike_168 : decode cL_isAlike 168 = .ok (.iload 6, 2) := by decide +kernel
theorem dL_isAlike_170 : decode cL_isAlike 170 = .ok (.invokestatic 121, 3) := by decide +kernel
theorem dL_isAlike_173 : decode cL_isAlike 173 = .ok (.aload_n 1, 1) := by decide +kernel
theorem dL_isAlike_174 : decode cL_isAlike 174 = .ok (.iload 4, 2) := by decide +kernel
theorem dL_isAlike_176 : decode cL_isAlike 176 = .ok (.iload 6, 2) := by decide +kernel
theorem dL_isAlike_178 : decode cL_isAlike 178 = .ok (.invokestatic 121, 3) := by decide +kernel
theorem dL_isAlike_181 : decode cL_isAlike 181 = .ok (.if_icmp .ne 42, 3) := by decide +kernel
theorem dL_isAlike_184 : decode cL_isAlike 184 = .ok (.aload_n 0, 1) := by decide +kernel
theorem dL_isAlike_185 : decode cL_isAlike 185 = .ok (.iload_n 3, 1) := by decide +kernel
theorem dL_isAlike_186 : decode cL_isAlike 186 = .ok (.bipush 12, 2) := by decide +kernel
theorem dL_isAlike_188 : decode cL_isAlike 188 = .ok (.idiv, 1) := by decide +kernel
theorem dL_isAlike_189 : decode cL_isAlike 189 = .ok (.iconst 2, 1) := by decide +kernel
theorem dL_isAlike_190 : decode cL_isAlike 190 = .ok (.irem, 1) := by decide +kernel
theorem dL_isAlike_191 : decode cL_isAlike 191 = .ok (.iload_n 3, 1) := by decide +kernel
theorem dL_isAlike_192 : decode cL_isAlike 192 = .ok (.bipush 12, 2) := by decide +kernel
theorem dL_isAlike_194 : decode cL_isAlike 194 = .ok (.irem, 1) := by decide +kernel
theorem dL_isAlike_195 : decode cL_isAlike 195 = .ok (.iload 6, 2) := by decide +kernel
theorem dL_isAlike_197 : decode cL_isAlike 197 = .ok (.invokestatic 136, 3) := by decide +kernel
theorem dL_isAlike_200 : decode cL_isAlike 200 = .ok (.aload_n 1, 1) := by decide +kernel
theorem dL_isAlike_201 : decode cL_isAlike 201 = .ok (.iload_n 3, 1) := by decide +kernel
theorem dL_isAlike_202 : decode cL_isAlike 202 = .ok (.bipush 12, 2) := by decide +kernel
theorem dL_isAlike_204 : decode cL_isAlike 204 = .ok (.idiv, 1) := by decide +kernel
theorem dL_isAlike_205 : decode cL_isAlike 205 = .ok (.iconst 2, 1) := by decide +kernel
theorem dL_isAlike_206 : decode cL_isAlike 206 = .ok (.irem, 1) := by decide +kernel
theorem dL_isAlike_207 : decode cL_isAlike 207 = .ok (.iload_n 3, 1) := by decide +kernel
theorem dL_isAlike_208 : decode cL_isAlike 208 = .ok (.bipush 12, 2) := by decide +kernel
theorem dL_isAlike_210 : decode cL_isAlike 210 = .ok (.irem, 1) := by decide +kernel
theorem dL_isAlike_211 : decode cL_isAlike 211 = .ok (.iload 6, 2) := by decide +kernel
theorem dL_isAlike_213 : decode cL_isAlike 213 = .ok (.invokestatic 136, 3) := by decide +kernel
theorem dL_isAlike_216 : decode cL_isAlike 216 = .ok (.if_icmp .ne 7, 3) := by decide +kernel
theorem dL_isAlike_219 : decode cL_isAlike 219 = .ok (.iconst 1, 1) := by decide +kernel
theorem dL_isAlike_220 : decode cL_isAlike 220 = .ok (.goto 4, 3) := by decide +kernel
theorem dL_isAlike_223 : decode cL_isAlike 223 = .ok (.iconst 0, 1) := by decide +kernel
theorem dL_isAlike_224 : decode cL_isAlike 224 = .ok (.istore 5, 2) := by decide +kernel
theorem dL_isAlike_226 : decode cL_isAlike 226 = .ok (.iinc 6 1, 3) := by decide +kernel
theorem dL_isAlike_229 : decode cL_isAlike 229 = .ok (.goto (-76), 3) := by decide +kernel
theorem dL_isAlike_232 : decode cL_isAlike 232 = .ok (.iload 5, 2) := by decide +kernel
theorem dL_isAlike_234 : decode cL_isAlike 234 = .ok (.ireturn, 1) := by decide +kernel
set_option maxRecDepth 20000 in
theorem ggL_isWhole_L_elementOf : GoodIn wsL_isWhole wsL_elementOf := goodIn_ca (goodIn_ca (goodIn_r _ [4, 5, 6, 7, 8, 9, 10, 11, 12, 13, 14, 15, 16, 17, 18, 19, 20, 21, 22, 23, 24, 25, 26, 27, 28, 29, 30, 31, 32, 33, 34, 35, 36, 37, 38, 39, 40, 41, 42, 43, 44, 45, 46, 47, 177, 178, 179, 180, 181, 182, 183, 184, 185, 186, 187, 188, 189, 190, 191, 192, 193, 194] (by decide +kernel) (by decide +kernel)) (goodIn_sub (fun _ h => List.mem_cons_of_mem _ (List.mem_append_left _ (List.mem_append_right _ h))) (by decide +kernel))) (goodIn_sub (fun _ h => List.mem_cons_of_mem _ (List.mem_append_right _ h)) (by decide +kernel))
set_option maxRecDepth 20000 in
theorem gL_isWhole_L_elementOf : GoodIn wsL_isWhole (va_wsS RL 121 yL_elementOf wsL_elementOf) := goodIn_app (goodIn_of _ (by decide +kernel)) ggL_isWhole_L_elementOf
set_option maxRecDepth 20000 in
theorem ggL_isWhole_L_anew : GoodIn wsL_isWhole wsL_anew := goodIn_ca (goodIn_r _ [50, 5, 7, 51, 52, 53, 12, 54, 14, 15, 55, 18, 56, 57, 58, 59, 32, 33, 34, 27, 28, 29, 30, 31, 60, 61, 62, 38, 63, 64, 65, 66, 67, 68, 69, 70, 71, 72, 41, 40, 73, 74, 44, 75, 76, 77, 78, 47, 46, 187, 188, 189, 190, 191, 192, 193, 194, 177, 178, 179, 180, 181, 182, 183, 184, 185, 186] (by decide +kernel) (by decide +kernel)) (goodIn_sub (fun _ h => List.mem_cons_of_mem _ (List.mem_append_left _ (List.mem_append_right _ h))) (by decide +kernel))
set_option maxRecDepth 20000 in
theorem gL_isWhole_L_anew : GoodIn wsL_isWhole (va_wsS RL 131 yL_anew wsL_anew) := goodIn_app (goodIn_of _ (by decide +kernel)) ggL_isWhole_L_anew
set_option maxRecDepth 20000 in
theorem ggL_isWhole_L_parts : GoodIn wsL_isWhole wsL_parts := goodIn_ca (goodIn_r _ [81, 5, 7, 82, 83, 84, 12, 85, 14, 15, 57, 58, 59, 32, 33, 34, 86, 87, 88, 89, 55, 18, 24, 27, 28, 29, 30, 31, 90, 91, 92, 93, 56, 35, 36, 37, 38, 39, 40, 41, 42, 43, 44, 45, 46, 47, 187, 188, 189, 190, 191, 192, 193, 194, 177, 178, 179, 180, 181, 182, 183, 184, 185, 186] (by decide +kernel) (by decide +kernel)) (goodIn_sub (fun _ h => List.mem_cons_of_mem _ (List.mem_append_left _ (List.mem_append_right _ h))) (by decide +kernel))
set_option maxRecDepth 20000 in
theorem gL_isWhole_L_parts : GoodIn wsL_isWhole (va_wsS RL 129 yL_parts wsL_parts) := goodIn_app (goodIn_of _ (by decide +kernel)) ggL_isWhole_L_parts
set_option maxRecDepth 20000 in
theorem ggL_isWhole_L_ordered : GoodIn wsL_isWhole wsL_ordered := goodIn_ca (goodIn_r _ [96, 5, 7, 97, 98, 99, 12, 100, 14, 15, 57, 58, 59, 32, 33, 34, 86, 87, 88, 89, 55, 18, 24, 27, 28, 29, 30, 31, 90, 91, 92, 93, 56, 35, 36, 37, 38, 39, 40, 41, 42, 43, 44, 45, 46, 47, 187, 188, 189, 190, 191, 192, 193, 194, 177, 178, 179, 180, 181, 182, 183, 184, 185, 186] (by decide +kernel) (by decide +kernel)) (goodIn_sub (fun _ h => List.mem_cons_of_mem _ (List.mem_append_left _ (List.mem_append_right _ h))) (by decide +kernel))
set_option maxRecDepth 20000 in
theorem gL_isWhole_L_ordered : GoodIn wsL_isWhole (va_wsS RL 134 yL_ordered wsL_ordered) := goodIn_app (goodIn_of _ (by decide +kernel)) ggL_isWhole_L_ordered
set_option maxRecDepth 20000 in
theorem ggL_isWhole_L_isLocked : GoodIn wsL_isWhole wsL_isLocked := goodIn_ca (goodIn_r _ [103, 5, 7, 104, 105, 106, 12, 107, 14, 15, 108, 109, 110, 111, 32, 33, 34, 187, 188, 189, 190, 191, 192, 193, 194] (by decide +kernel) (by decide +kernel)) (goodIn_sub (fun _ h => List.mem_cons_of_mem _ (List.mem_append_left _ (List.mem_append_right _ h))) (by decide +kernel))
set_option maxRecDepth 20000 in
theorem gL_isWhole_L_isLocked : GoodIn wsL_isWhole (va_wsS RL 138 yL_isLocked wsL_isLocked) := goodIn_app (goodIn_of _ (by decide +kernel)) ggL_isWhole_L_isLocked
set_option maxRecDepth 20000 in
theorem ggL_isWhole_L_clash : GoodIn wsL_isWhole wsL_clash := goodIn_ca (goodIn_r _ [114, 5, 7, 115, 116, 117, 12, 118, 14, 15, 27, 28, 29, 30, 31, 32, 33, 34, 119, 120, 121, 122, 19, 18, 60, 61, 62, 38, 63, 64, 123, 124, 125, 126, 41, 40, 47, 46, 76, 77, 44, 78, 127, 128, 129, 73, 74, 75, 130, 131, 132, 133, 134, 57, 58, 59, 187, 188, 189, 190, 191, 192, 193, 194, 177, 178, 179, 180, 181, 182, 183, 184, 185, 186] (by decide +kernel) (by decide +kernel)) (goodIn_sub (fun _ h => List.mem_cons_of_mem _ (List.mem_append_left _ (List.mem_append_right _ h))) (by decide +kernel))
set_option maxRecDepth 20000 in
theorem gL_isWhole_L_clash : GoodIn wsL_isWhole (va_wsS RL 123 yL_clash wsL_clash) := goodIn_app (goodIn_of _ (by decide +kernel)) ggL_isWhole_L_clash
set_option maxRecDepth 20000 in
theorem ggL_isWhole_L_isStopped : GoodIn wsL_isWhole wsL_isStopped := goodIn_ca (goodIn_r _ [137, 5, 7, 138, 139, 140, 12, 141, 14, 15, 55, 18, 19, 57, 58, 59, 32, 33, 34, 109, 110, 111, 27, 28, 29, 30, 31, 142, 143, 144, 145, 119, 120, 121, 122, 60, 61, 62, 38, 63, 64, 123, 124, 125, 126, 41, 40, 47, 46, 76, 77, 44, 78, 127, 128, 129, 73, 74, 75, 130, 131, 132, 133, 134, 187, 188, 189, 190, 191, 192, 193, 194, 177, 178, 179, 180, 181, 182, 183, 184, 185, 186] (by decide +kernel) (by decide +kernel)) (goodIn_sub (fun _ h => List.mem_cons_of_mem _ (List.mem_append_left _ (List.mem_append_right _ h))) (by decide +kernel))
set_option maxRecDepth 20000 in
theorem gL_isWhole_L_isStopped : GoodIn wsL_isWhole (va_wsS RL 127 yL_isStopped wsL_isStopped) := goodIn_app (goodIn_of _ (by decide +kernel)) ggL_isWhole_L_isStopped
set_option maxRecDepth 20000 in
theorem ggL_isWhole_L_clashes : GoodIn wsL_isWhole wsL_clashes := goodIn_ca (goodIn_r _ [148, 5, 7, 149, 150, 151, 12, 152, 14, 15, 55, 109, 110, 111, 32, 33, 34, 153, 154, 155, 156, 19, 27, 28, 29, 30, 31, 157, 158, 159, 160, 119, 120, 121, 122, 18, 60, 61, 62, 38, 63, 64, 123, 124, 125, 126, 41, 40, 47, 46, 76, 77, 44, 78, 127, 128, 129, 73, 74, 75, 130, 131, 132, 133, 134, 57, 58, 59, 187, 188, 189, 190, 191, 192, 193, 194, 177, 178, 179, 180, 181, 182, 183, 184, 185, 186] (by decide +kernel) (by decide +kernel)) (goodIn_sub (fun _ h => List.mem_cons_of_mem _ (List.mem_append_left _ (List.mem_append_right _ h))) (by decide +kernel))
set_option maxRecDepth 20000 in
theorem gL_isWhole_L_clashes : GoodIn wsL_isWhole (va_wsS RL 125 yL_clashes wsL_clashes) := goodIn_app (goodIn_of _ (by decide +kernel)) ggL_isWhole_L_clashes
set_option maxRecDepth 20000 in
theorem ggL_isWhole_X1_revision : GoodIn wsL_isWhole wsX1_revision := goodIn_r _ [164, 165, 187, 188, 189, 190, 191, 192, 193, 194] (by decide +kernel) (by decide +kernel)
set_option maxRecDepth 20000 in
theorem gL_isWhole_X1_revision : GoodIn wsL_isWhole (wsV RL 88 RX1 yX1_revision wsX1_revision) := goodIn_app (goodIn_of _ (by decide +kernel)) ggL_isWhole_X1_revision
set_option maxRecDepth 20000 in
theorem ggL_isWhole_L_kindsAt : GoodIn wsL_isWhole wsL_kindsAt := goodIn_ca (goodIn_ca (goodIn_r _ [168, 5, 6, 7, 8, 169, 170, 171, 12, 172, 14, 15, 16, 17, 55, 19, 18, 109, 110, 111, 32, 33, 34, 173, 174, 175, 27, 28, 29, 30, 31, 60, 61, 62, 38, 63, 64, 176, 70, 71, 72, 41, 40, 73, 74, 44, 75, 76, 77, 78, 47, 46, 187, 188, 189, 190, 191, 192, 193, 194, 177, 178, 179, 180, 181, 182, 183, 184, 185, 186] (by decide +kernel) (by decide +kernel)) (goodIn_sub (fun _ h => List.mem_cons_of_mem _ (List.mem_append_left _ (List.mem_append_right _ h))) (by decide +kernel))) (goodIn_sub (fun _ h => List.mem_cons_of_mem _ (List.mem_append_right _ h)) (by decide +kernel))
set_option maxRecDepth 20000 in
theorem gL_isWhole_L_kindsAt : GoodIn wsL_isWhole (va_wsS RL 136 yL_kindsAt wsL_kindsAt) := goodIn_app (goodIn_of _ (by decide +kernel)) ggL_isWhole_L_kindsAt
theorem dL_isWhole_0 : decode cL_isWhole 0 = .ok (.iconst 1, 1) := by decide +kernel
theorem dL_isWhole_1 : decode cL_isWhole 1 = .ok (.istore_n 2, 1) := by decide +kernel
theorem dL_isWhole_2 : decode cL_isWhole 2 = .ok (.iconst 0, 1) := by decide +kernel
theorem dL_isWhole_3 : decode cL_isWhole 3 = .ok (.istore_n 3, 1) := by decide +kernel
theorem dL_isWhole_4 : decode cL_isWhole 4 = .ok (.iload_n 3, 1) := by decide +kernel
theorem dL_isWhole_5 : decode cL_isWhole 5 = .ok (.iconst 3, 1) := by decide +kernel
theorem dL_isWhole_6 : decode cL_isWhole 6 = .ok (.if_icmp .ge 126, 3) := by decide +kernel
theorem dL_isWhole_9 : decode cL_isWhole 9 = .ok (.iload_n 2, 1) := by decide +kernel
theorem dL_isWhole_10 : decode cL_isWhole 10 = .ok (.ifCond .eq 122, 3) := by decide +kernel
theorem dL_isWhole_13 : decode cL_isWhole 13 = .ok (.iconst 0, 1) := by decide +kernel
theorem dL_isWhole_14 : decode cL_isWhole 14 = .ok (.istore 4, 2) := by decide +kernel
theorem dL_isWhole_16 : decode cL_isWhole 16 = .ok (.iconst 0, 1) := by decide +kernel
theorem dL_isWhole_17 : decode cL_isWhole 17 = .ok (.istore 5, 2) := by decide +kernel
theorem dL_isWhole_19 : decode cL_isWhole 19 = .ok (.iload 5, 2) := by decide +kernel
theorem dL_isWhole_21 : decode cL_isWhole 21 = .ok (.iload_n 1, 1) := by decide +kernel
theorem dL_isWhole_22 : decode cL_isWhole 22 = .ok (.if_icmp .ge 49, 3) := by decide +kernel
theorem dL_isWhole_25 : decode cL_isWhole 25 = .ok (.iload 4, 2) := by decide +kernel
theorem dL_isWhole_27 : decode cL_isWhole 27 = .ok (.aload_n 0, 1) := by decide +kernel
theorem dL_isWhole_28 : decode cL_isWhole 28 = .ok (.iload 5, 2) := by decide +kernel
theorem dL_isWhole_30 : decode cL_isWhole 30 = .ok (.iconst 0, 1) := by decide +kernel
theorem dL_isWhole_31 : decode cL_isWhole 31 = .ok (.invokestatic 121, 3) := by decide +kernel
theorem dL_isWhole_34 : decode cL_isWhole 34 = .ok (.iload_n 3, 1) := by decide +kernel
theorem dL_isWhole_35 : decode cL_isWhole 35 = .ok (.if_icmp .ne 26, 3) := by decide +kernel
theorem dL_isWhole_38 : decode cL_isWhole 38 = .ok (.aload_n 0, 1) := by decide +kernel
theorem dL_isWhole_39 : decode cL_isWhole 39 = .ok (.iload 5, 2) := by decide +kernel
theorem dL_isWhole_41 : decode cL_isWhole 41 = .ok (.bipush 6, 2) := by decide +kernel
theorem dL_isWhole_43 : decode cL_isWhole 43 = .ok (.invokestatic 121, 3) := by decide +kernel
theorem dL_isWhole_46 : decode cL_isWhole 46 = .ok (.iconst 4, 1) := by decide +kernel
theorem dL_isWhole_47 : decode cL_isWhole 47 = .ok (.if_icmp .ge 14, 3) := by decide +kernel
theorem dL_isWhole_50 : decode cL_isWhole 50 = .ok (.aload_n 0, 1) := by decide +kernel
theorem dL_isWhole_51 : decode cL_isWhole 51 = .ok (.iload 5, 2) := by decide +kernel
theorem dL_isWhole_53 : decode cL_isWhole 53 = .ok (.bipush 9, 2) := by decide +kernel
theorem dL_isWhole_55 : decode cL_isWhole 55 = .ok (.invokestatic 121, 3) := by decide +kernel
theorem dL_isWhole_58 : decode cL_isWhole 58 = .ok (.goto 4, 3) := by decide +kernel
theorem dL_isWhole_61 : decode cL_isWhole 61 = .ok (.iconst 0, 1) := by decide +kernel
theorem dL_isWhole_62 : decode cL_isWhole 62 = .ok (.iadd, 1) := by decide +kernel
theorem dL_isWhole_63 : decode cL_isWhole 63 = .ok (.istore 4, 2) := by decide +kernel
theorem dL_isWhole_65 : decode cL_isWhole 65 = .ok (.iinc 5 1, 3) := by decide +kernel
theorem dL_isWhole_68 : decode cL_isWhole 68 = .ok (.goto (-49), 3) := by decide +kernel
theorem dL_isWhole_71 : decode cL_isWhole 71 = .ok (.aload_n 0, 1) := by decide +kernel
theorem dL_isWhole_72 : decode cL_isWhole 72 = .ok (.iload_n 3, 1) := by decide +kernel
theorem dL_isWhole_73 : decode cL_isWhole 73 = .ok (.invokestatic 131, 3) := by decide +kernel
theorem dL_isWhole_76 : decode cL_isWhole 76 = .ok (.aload_n 0, 1) := by decide +kernel
theorem dL_isWhole_77 : decode cL_isWhole 77 = .ok (.iload_n 3, 1) := by decide +kernel
theorem dL_isWhole_78 : decode cL_isWhole 78 = .ok (.invokestatic 129, 3) := by decide +kernel
theorem dL_isWhole_81 : decode cL_isWhole 81 = .ok (.if_icmp .ne 43, 3) := by decide +kernel
theorem dL_isWhole_84 : decode cL_isWhole 84 = .ok (.aload_n 0, 1) := by decide +kernel
theorem dL_isWhole_85 : decode cL_isWhole 85 = .ok (.iload_n 3, 1) := by decide +kernel
theorem dL_isWhole_86 : decode cL_isWhole 86 = .ok (.invokestatic 134, 3) := by decide +kernel
theorem dL_isWhole_89 : decode cL_isWhole 89 = .ok (.aload_n 0, 1) := by decide +kernel
theorem dL_isWhole_90 : decode cL_isWhole 90 = .ok (.iload_n 3, 1) := by decide +kernel
theorem dL_isWhole_91 : decode cL_isWhole 91 = .ok (.invokestatic 129, 3) := by decide +kernel
theorem dL_isWhole_94 : decode cL_isWhole 94 = .ok (.if_icmp .gt 30, 3) := by decide +kernel
theorem dL_isWhole_97 : decode cL_isWhole 97 = .ok (.aload_n 0, 1) := by decide +kernel
theorem dL_isWhole_98 : decode cL_isWhole 98 = .ok (.iload_n 3, 1) := by decide +kernel
theorem dL_isWhole_99 : decode cL_isWhole 99 = .ok (.invokestatic 129, 3) := by decide +kernel
theorem dL_isWhole_102 : decode cL_isWhole 102 = .ok (.iload 4, 2) := by decide +kernel
theorem dL_isWhole_104 : decode cL_isWhole 104 = .ok (.if_icmp .gt 20, 3) := by decide +kernel
theorem dL_isWhole_107 : decode cL_isWhole 107 = .ok (.bipush 12, 2) := by decide +kernel
theorem dL_isWhole_109 : decode cL_isWhole 109 = .ok (.aload_n 0, 1) := by decide +kernel
theorem dL_isWhole_110 : decode cL_isWhole 110 = .ok (.iload_n 3, 1) := by decide +kernel
theorem dL_isWhole_111 : decode cL_isWhole 111 = .ok (.invokestatic 129, 3) := by decide +kernel
theorem dL_isWhole_114 : decode cL_isWhole 114 = .ok (.imul, 1) := by decide +kernel
theorem dL_isWhole_115 : decode cL_isWhole 115 = .ok (.iload 4, 2) := by decide +kernel
theorem dL_isWhole_117 : decode cL_isWhole 117 = .ok (.if_icmp .lt 7, 3) := by decide +kernel
theorem dL_isWhole_120 : decode cL_isWhole 120 = .ok (.iconst 1, 1) := by decide +kernel
theorem dL_isWhole_121 : decode cL_isWhole 121 = .ok (.goto 4, 3) := by decide +kernel
theorem dL_isWhole_124 : decode cL_isWhole 124 = .ok (.iconst 0, 1) := by decide +kernel
theorem dL_isWhole_125 : decode cL_isWhole 125 = .ok (.istore_n 2, 1) := by decide +kernel
theorem dL_isWhole_126 : decode cL_isWhole 126 = .ok (.iinc 3 1, 3) := by decide +kernel
theorem dL_isWhole_129 : decode cL_isWhole 129 = .ok (.goto (-125), 3) := by decide +kernel
theorem dL_isWhole_132 : decode cL_isWhole 132 = .ok (.iconst 0, 1) := by decide +kernel
theorem dL_isWhole_133 : decode cL_isWhole 133 = .ok (.istore_n 3, 1) := by decide +kernel
theorem dL_isWhole_134 : decode cL_isWhole 134 = .ok (.iload_n 3, 1) := by decide +kernel
theorem dL_isWhole_135 : decode cL_isWhole 135 = .ok (.iconst 4, 1) := by decide +kernel
theorem dL_isWhole_136 : decode cL_isWhole 136 = .ok (.if_icmp .ge 194, 3) := by decide +kernel
theorem dL_isWhole_139 : decode cL_isWhole 139 = .ok (.iload_n 2, 1) := by decide +kernel
theorem dL_isWhole_140 : decode cL_isWhole 140 = .ok (.ifCond .eq 190, 3) := by decide +kernel
theorem dL_isWhole_143 : decode cL_isWhole 143 = .ok (.iconst 0, 1) := by decide +kernel
theorem dL_isWhole_144 : decode cL_isWhole 144 = .ok (.istore 4, 2) := by decide +kernel
theorem dL_isWhole_146 : decode cL_isWhole 146 = .ok (.iconst 0, 1) := by decide +kernel
theorem dL_isWhole_147 : decode cL_isWhole 147 = .ok (.istore 5, 2) := by decide +kernel
theorem dL_isWhole_149 : decode cL_isWhole 149 = .ok (.iload 5, 2) := by decide +kernel
theorem dL_isWhole_151 : decode cL_isWhole 151 = .ok (.iload_n 1, 1) := by decide +kernel
theorem dL_isWhole_152 : decode cL_isWhole 152 = .ok (.if_icmp .ge 152, 3) := by decide +kernel
theorem dL_isWhole_155 : decode cL_isWhole 155 = .ok (.iload_n 2, 1) := by decide +kernel
theorem dL_isWhole_156 : decode cL_isWhole 156 = .ok (.ifCond .eq 148, 3) := by decide +kernel
theorem dL_isWhole_159 : decode cL_isWhole 159 = .ok (.aload_n 0, 1) := by decide +kernel
theorem dL_isWhole_160 : decode cL_isWhole 160 = .ok (.iload 5, 2) := by decide +kernel
theorem dL_isWhole_162 : decode cL_isWhole 162 = .ok (.iconst 1, 1) := by decide +kernel
theorem dL_isWhole_163 : decode cL_isWhole 163 = .ok (.invokestatic 121, 3) := by decide +kernel
theorem dL_isWhole_166 : decode cL_isWhole 166 = .ok (.iload_n 3, 1) := by decide +kernel
theorem dL_isWhole_167 : decode cL_isWhole 167 = .ok (.if_icmp .ne 7, 3) := by decide +kernel
theorem dL_isWhole_170 : decode cL_isWhole 170 = .ok (.iconst 1, 1) := by decide +kernel
theorem dL_isWhole_171 : decode cL_isWhole 171 = .ok (.goto 4, 3) := by decide +kernel
theorem dL_isWhole_174 : decode cL_isWhole 174 = .ok (.iconst 0, 1) := by decide +kernel
theorem dL_isWhole_175 : decode cL_isWhole 175 = .ok (.istore 6, 2) := by decide +kernel
theorem dL_isWhole_177 : decode cL_isWhole 177 = .ok (.iload 6, 2) := by decide +kernel
theorem dL_isWhole_179 : decode cL_isWhole 179 = .ok (.ifCond .eq 23, 3) := by decide +kernel
theorem dL_isWhole_182 : decode cL_isWhole 182 = .ok (.aload_n 0, 1) := by decide +kernel
theorem dL_isWhole_183 : decode cL_isWhole 183 = .ok (.iload_n 3, 1) := by decide +kernel
theorem dL_isWhole_184 : decode cL_isWhole 184 = .ok (.invokestatic 138, 3) := by decide +kernel
theorem dL_isWhole_187 : decode cL_isWhole 187 = .ok (.ifCond .eq 15, 3) := by decide +kernel
theorem dL_isWhole_190 : decode cL_isWhole 190 = .ok (.aload_n 0, 1) := by decide +kernel
theorem dL_isWhole_191 : decode cL_isWhole 191 = .ok (.iload 5, 2) := by decide +kernel
theorem dL_isWhole_193 : decode cL_isWhole 193 = .ok (.bipush 6, 2) := by decide +kernel
theorem dL_isWhole_195 : decode cL_isWhole 195 = .ok (.invokestatic 121, 3) := by decide +kernel
