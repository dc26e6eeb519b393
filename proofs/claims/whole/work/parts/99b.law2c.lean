/-! The law: decode rows. Written by wip/whole/law.py. -/
theorem d_law_639 : decode code 639 = .ok (.iconst 1, 1) := by decide +kernel
theorem d_law_640 : decode code 640 = .ok (.iadd, 1) := by decide +kernel
theorem d_law_641 : decode code 641 = .ok (.iaload, 1) := by decide +kernel
theorem d_law_642 : decode code 642 = .ok (.aload_n 0, 1) := by decide +kernel
theorem d_law_643 : decode code 643 = .ok (.iload 4, 2) := by decide +kernel
theorem d_law_645 : decode code 645 = .ok (.iconst 2, 1) := by decide +kernel
theorem d_law_646 : decode code 646 = .ok (.iadd, 1) := by decide +kernel
theorem d_law_647 : decode code 647 = .ok (.iaload, 1) := by decide +kernel
theorem d_law_648 : decode code 648 = .ok (.aload_n 0, 1) := by decide +kernel
theorem d_law_649 : decode code 649 = .ok (.iload 4, 2) := by decide +kernel
theorem d_law_651 : decode code 651 = .ok (.iconst 3, 1) := by decide +kernel
theorem d_law_652 : decode code 652 = .ok (.iadd, 1) := by decide +kernel
theorem d_law_653 : decode code 653 = .ok (.iaload, 1) := by decide +kernel
theorem d_law_654 : decode code 654 = .ok (.aload_n 0, 1) := by decide +kernel
theorem d_law_655 : decode code 655 = .ok (.iload 4, 2) := by decide +kernel
theorem d_law_657 : decode code 657 = .ok (.iconst 4, 1) := by decide +kernel
theorem d_law_658 : decode code 658 = .ok (.iadd, 1) := by decide +kernel
theorem d_law_659 : decode code 659 = .ok (.iaload, 1) := by decide +kernel
theorem d_law_660 : decode code 660 = .ok (.invokevirtual 92, 3) := by decide +kernel
theorem d_law_663 : decode code 663 = .ok (.istore 6, 2) := by decide +kernel
theorem d_law_665 : decode code 665 = .ok (.aload_n 2, 1) := by decide +kernel
theorem d_law_666 : decode code 666 = .ok (.invokevirtual 65, 3) := by decide +kernel
theorem d_law_669 : decode code 669 = .ok (.iload 5, 2) := by decide +kernel
theorem d_law_671 : decode code 671 = .ok (.if_icmp .eq 5, 3) := by decide +kernel
theorem d_law_674 : decode code 674 = .ok (.iconst 0, 1) := by decide +kernel
theorem d_law_675 : decode code 675 = .ok (.ireturn, 1) := by decide +kernel
theorem d_law_676 : decode code 676 = .ok (.iload 5, 2) := by decide +kernel
theorem d_law_678 : decode code 678 = .ok (.ifCond .ne 15, 3) := by decide +kernel
theorem d_law_681 : decode code 681 = .ok (.aload_n 3, 1) := by decide +kernel
theorem d_law_682 : decode code 682 = .ok (.iconst 0, 1) := by decide +kernel
theorem d_law_683 : decode code 683 = .ok (.laload, 1) := by decide +kernel
theorem d_law_684 : decode code 684 = .ok (.iload 6, 2) := by decide +kernel
theorem d_law_686 : decode code 686 = .ok (.i2l, 1) := by decide +kernel
theorem d_law_687 : decode code 687 = .ok (.lcmp, 1) := by decide +kernel
theorem d_law_688 : decode code 688 = .ok (.ifCond .eq 5, 3) := by decide +kernel
theorem d_law_691 : decode code 691 = .ok (.iconst 0, 1) := by decide +kernel
theorem d_law_692 : decode code 692 = .ok (.ireturn, 1) := by decide +kernel
theorem d_law_693 : decode code 693 = .ok (.goto 477, 3) := by decide +kernel
theorem d_law_696 : decode code 696 = .ok (.aload_n 1, 1) := by decide +kernel
theorem d_law_697 : decode code 697 = .ok (.aload_n 0, 1) := by decide +kernel
theorem d_law_698 : decode code 698 = .ok (.iload 4, 2) := by decide +kernel
theorem d_law_700 : decode code 700 = .ok (.iconst 1, 1) := by decide +kernel
theorem d_law_701 : decode code 701 = .ok (.iadd, 1) := by decide +kernel
theorem d_law_702 : decode code 702 = .ok (.iaload, 1) := by decide +kernel
theorem d_law_703 : decode code 703 = .ok (.aload_n 0, 1) := by decide +kernel
theorem d_law_704 : decode code 704 = .ok (.iload 4, 2) := by decide +kernel
theorem d_law_706 : decode code 706 = .ok (.iconst 2, 1) := by decide +kernel
theorem d_law_707 : decode code 707 = .ok (.iadd, 1) := by decide +kernel
theorem d_law_708 : decode code 708 = .ok (.iaload, 1) := by decide +kernel
theorem d_law_709 : decode code 709 = .ok (.aload_n 3, 1) := by decide +kernel
theorem d_law_710 : decode code 710 = .ok (.invokestatic 93, 3) := by decide +kernel
theorem d_law_713 : decode code 713 = .ok (.istore 5, 2) := by decide +kernel
theorem d_law_715 : decode code 715 = .ok (.aload_n 2, 1) := by decide +kernel
theorem d_law_716 : decode code 716 = .ok (.aload_n 0, 1) := by decide +kernel
theorem d_law_717 : decode code 717 = .ok (.iload 4, 2) := by decide +kernel
theorem d_law_719 : decode code 719 = .ok (.iconst 1, 1) := by decide +kernel
theorem d_law_720 : decode code 720 = .ok (.iadd, 1) := by decide +kernel
theorem d_law_721 : decode code 721 = .ok (.iaload, 1) := by decide +kernel
theorem d_law_722 : decode code 722 = .ok (.aload_n 0, 1) := by decide +kernel
theorem d_law_723 : decode code 723 = .ok (.iload 4, 2) := by decide +kernel
theorem d_law_725 : decode code 725 = .ok (.iconst 2, 1) := by decide +kernel
theorem d_law_726 : decode code 726 = .ok (.iadd, 1) := by decide +kernel
theorem d_law_727 : decode code 727 = .ok (.iaload, 1) := by decide +kernel
theorem d_law_728 : decode code 728 = .ok (.invokevirtual 95, 3) := by decide +kernel
theorem d_law_731 : decode code 731 = .ok (.istore 6, 2) := by decide +kernel
theorem d_law_733 : decode code 733 = .ok (.aload_n 2, 1) := by decide +kernel
theorem d_law_734 : decode code 734 = .ok (.invokevirtual 65, 3) := by decide +kernel
theorem d_law_737 : decode code 737 = .ok (.iload 5, 2) := by decide +kernel
theorem d_law_739 : decode code 739 = .ok (.if_icmp .eq 5, 3) := by decide +kernel
theorem d_law_742 : decode code 742 = .ok (.iconst 0, 1) := by decide +kernel
theorem d_law_743 : decode code 743 = .ok (.ireturn, 1) := by decide +kernel
theorem d_law_744 : decode code 744 = .ok (.iload 5, 2) := by decide +kernel
theorem d_law_746 : decode code 746 = .ok (.ifCond .ne 22, 3) := by decide +kernel
theorem d_law_749 : decode code 749 = .ok (.aload_n 3, 1) := by decide +kernel
theorem d_law_750 : decode code 750 = .ok (.iconst 0, 1) := by decide +kernel
theorem d_law_751 : decode code 751 = .ok (.laload, 1) := by decide +kernel
theorem d_law_752 : decode code 752 = .ok (.iload 6, 2) := by decide +kernel
theorem d_law_754 : decode code 754 = .ok (.ifCond .eq 7, 3) := by decide +kernel
theorem d_law_757 : decode code 757 = .ok (.lconst 1, 1) := by decide +kernel
theorem d_law_758 : decode code 758 = .ok (.goto 4, 3) := by decide +kernel
theorem d_law_761 : decode code 761 = .ok (.lconst 0, 1) := by decide +kernel
theorem d_law_762 : decode code 762 = .ok (.lcmp, 1) := by decide +kernel
theorem d_law_763 : decode code 763 = .ok (.ifCond .eq 5, 3) := by decide +kernel
theorem d_law_766 : decode code 766 = .ok (.iconst 0, 1) := by decide +kernel
theorem d_law_767 : decode code 767 = .ok (.ireturn, 1) := by decide +kernel
theorem d_law_768 : decode code 768 = .ok (.goto 402, 3) := by decide +kernel
theorem d_law_771 : decode code 771 = .ok (.aload_n 1, 1) := by decide +kernel
theorem d_law_772 : decode code 772 = .ok (.invokevirtual 96, 3) := by decide +kernel
theorem d_law_775 : decode code 775 = .ok (.aload_n 2, 1) := by decide +kernel
theorem d_law_776 : decode code 776 = .ok (.invokevirtual 99, 3) := by decide +kernel
theorem d_law_779 : decode code 779 = .ok (.if_icmp .eq 391, 3) := by decide +kernel
theorem d_law_782 : decode code 782 = .ok (.iconst 0, 1) := by decide +kernel
theorem d_law_783 : decode code 783 = .ok (.ireturn, 1) := by decide +kernel
theorem d_law_784 : decode code 784 = .ok (.aload_n 1, 1) := by decide +kernel
theorem d_law_785 : decode code 785 = .ok (.aload_n 0, 1) := by decide +kernel
theorem d_law_786 : decode code 786 = .ok (.iload 4, 2) := by decide +kernel
theorem d_law_788 : decode code 788 = .ok (.iconst 1, 1) := by decide +kernel
theorem d_law_789 : decode code 789 = .ok (.iadd, 1) := by decide +kernel
theorem d_law_790 : decode code 790 = .ok (.iaload, 1) := by decide +kernel
theorem d_law_791 : decode code 791 = .ok (.aload_n 3, 1) := by decide +kernel
theorem d_law_792 : decode code 792 = .ok (.invokestatic 100, 3) := by decide +kernel
theorem d_law_795 : decode code 795 = .ok (.istore 5, 2) := by decide +kernel
theorem d_law_797 : decode code 797 = .ok (.aload_n 2, 1) := by decide +kernel
theorem d_law_798 : decode code 798 = .ok (.aload_n 0, 1) := by decide +kernel
theorem d_law_799 : decode code 799 = .ok (.iload 4, 2) := by decide +kernel
theorem d_law_801 : decode code 801 = .ok (.iconst 1, 1) := by decide +kernel
theorem d_law_802 : decode code 802 = .ok (.iadd, 1) := by decide +kernel
theorem d_law_803 : decode code 803 = .ok (.iaload, 1) := by decide +kernel
theorem d_law_804 : decode code 804 = .ok (.invokevirtual 102, 3) := by decide +kernel
theorem d_law_807 : decode code 807 = .ok (.istore 6, 2) := by decide +kernel
theorem d_law_809 : decode code 809 = .ok (.aload_n 2, 1) := by decide +kernel
theorem d_law_810 : decode code 810 = .ok (.invokevirtual 65, 3) := by decide +kernel
theorem d_law_813 : decode code 813 = .ok (.iload 5, 2) := by decide +kernel
theorem d_law_815 : decode code 815 = .ok (.if_icmp .eq 5, 3) := by decide +kernel
theorem d_law_818 : decode code 818 = .ok (.iconst 0, 1) := by decide +kernel
theorem d_law_819 : decode code 819 = .ok (.ireturn, 1) := by decide +kernel
theorem d_law_820 : decode code 820 = .ok (.iload 5, 2) := by decide +kernel
theorem d_law_822 : decode code 822 = .ok (.ifCond .ne 22, 3) := by decide +kernel
theorem d_law_825 : decode code 825 = .ok (.aload_n 3, 1) := by decide +kernel
theorem d_law_826 : decode code 826 = .ok (.iconst 0, 1) := by decide +kernel
theorem d_law_827 : decode code 827 = .ok (.laload, 1) := by decide +kernel
theorem d_law_828 : decode code 828 = .ok (.iload 6, 2) := by decide +kernel
theorem d_law_830 : decode code 830 = .ok (.ifCond .eq 7, 3) := by decide +kernel
theorem d_law_833 : decode code 833 = .ok (.lconst 1, 1) := by decide +kernel
theorem d_law_834 : decode code 834 = .ok (.goto 4, 3) := by decide +kernel
theorem d_law_837 : decode code 837 = .ok (.lconst 0, 1) := by decide +kernel
theorem d_law_838 : decode code 838 = .ok (.lcmp, 1) := by decide +kernel
theorem d_law_839 : decode code 839 = .ok (.ifCond .eq 5, 3) := by decide +kernel
theorem d_law_842 : decode code 842 = .ok (.iconst 0, 1) := by decide +kernel
theorem d_law_843 : decode code 843 = .ok (.ireturn, 1) := by decide +kernel
theorem d_law_844 : decode code 844 = .ok (.goto 326, 3) := by decide +kernel
theorem d_law_847 : decode code 847 = .ok (.aload_n 1, 1) := by decide +kernel
theorem d_law_848 : decode code 848 = .ok (.aload_n 0, 1) := by decide +kernel
theorem d_law_849 : decode code 849 = .ok (.iload 4, 2) := by decide +kernel
theorem d_law_851 : decode code 851 = .ok (.iconst 1, 1) := by decide +kernel
theorem d_law_852 : decode code 852 = .ok (.iadd, 1) := by decide +kernel
theorem d_law_853 : decode code 853 = .ok (.iaload, 1) := by decide +kernel
theorem d_law_854 : decode code 854 = .ok (.aload_n 3, 1) := by decide +kernel
theorem d_law_855 : decode code 855 = .ok (.invokestatic 103, 3) := by decide +kernel
theorem d_law_858 : decode code 858 = .ok (.istore 5, 2) := by decide +kernel
theorem d_law_860 : decode code 860 = .ok (.aload_n 2, 1) := by decide +kernel
theorem d_law_861 : decode code 861 = .ok (.aload_n 0, 1) := by decide +kernel
theorem d_law_862 : decode code 862 = .ok (.iload 4, 2) := by decide +kernel
theorem d_law_864 : decode code 864 = .ok (.iconst 1, 1) := by decide +kernel
theorem d_law_865 : decode code 865 = .ok (.iadd, 1) := by decide +kernel
theorem d_law_866 : decode code 866 = .ok (.iaload, 1) := by decide +kernel
theorem d_law_867 : decode code 867 = .ok (.invokevirtual 105, 3) := by decide +kernel
theorem d_law_870 : decode code 870 = .ok (.istore 6, 2) := by decide +kernel
theorem d_law_872 : decode code 872 = .ok (.aload_n 2, 1) := by decide +kernel
theorem d_law_873 : decode code 873 = .ok (.invokevirtual 65, 3) := by decide +kernel
theorem d_law_876 : decode code 876 = .ok (.iload 5, 2) := by decide +kernel
theorem d_law_878 : decode code 878 = .ok (.if_icmp .eq 5, 3) := by decide +kernel
theorem d_law_881 : decode code 881 = .ok (.iconst 0, 1) := by decide +kernel
theorem d_law_882 : decode code 882 = .ok (.ireturn, 1) := by decide +kernel
theorem d_law_883 : decode code 883 = .ok (.iload 5, 2) := by decide +kernel
theorem d_law_885 : decode code 885 = .ok (.ifCond .ne 22, 3) := by decide +kernel
theorem d_law_888 : decode code 888 = .ok (.aload_n 3, 1) := by decide +kernel
theorem d_law_889 : decode code 889 = .ok (.iconst 0, 1) := by decide +kernel
theorem d_law_890 : decode code 890 = .ok (.laload, 1) := by decide +kernel
theorem d_law_891 : decode code 891 = .ok (.iload 6, 2) := by decide +kernel
theorem d_law_893 : decode code 893 = .ok (.ifCond .eq 7, 3) := by decide +kernel
theorem d_law_896 : decode code 896 = .ok (.lconst 1, 1) := by decide +kernel
theorem d_law_897 : decode code 897 = .ok (.goto 4, 3) := by decide +kernel
theorem d_law_900 : decode code 900 = .ok (.lconst 0, 1) := by decide +kernel
theorem d_law_901 : decode code 901 = .ok (.lcmp, 1) := by decide +kernel
theorem d_law_902 : decode code 902 = .ok (.ifCond .eq 5, 3) := by decide +kernel
theorem d_law_905 : decode code 905 = .ok (.iconst 0, 1) := by decide +kernel
theorem d_law_906 : decode code 906 = .ok (.ireturn, 1) := by decide +kernel
theorem d_law_907 : decode code 907 = .ok (.goto 263, 3) := by decide +kernel
theorem d_law_910 : decode code 910 = .ok (.aload_n 1, 1) := by decide +kernel
theorem d_law_911 : decode code 911 = .ok (.aload_n 0, 1) := by decide +kernel
theorem d_law_912 : decode code 912 = .ok (.iload 4, 2) := by decide +kernel
theorem d_law_914 : decode code 914 = .ok (.iconst 1, 1) := by decide +kernel
theorem d_law_915 : decode code 915 = .ok (.iadd, 1) := by decide +kernel
theorem d_law_916 : decode code 916 = .ok (.iaload, 1) := by decide +kernel
theorem d_law_917 : decode code 917 = .ok (.aload_n 0, 1) := by decide +kernel
theorem d_law_918 : decode code 918 = .ok (.iload 4, 2) := by decide +kernel
theorem d_law_920 : decode code 920 = .ok (.iconst 2, 1) := by decide +kernel
theorem d_law_921 : decode code 921 = .ok (.iadd, 1) := by decide +kernel
theorem d_law_922 : decode code 922 = .ok (.iaload, 1) := by decide +kernel
theorem d_law_923 : decode code 923 = .ok (.invokevirtual 106, 3) := by decide +kernel
theorem d_law_926 : decode code 926 = .ok (.aload_n 2, 1) := by decide +kernel
