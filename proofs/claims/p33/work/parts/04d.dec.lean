theorem dL_holds_658 : decode cL_holds 658 = .ok (.ior, 1) := by decide +kernel
theorem dL_holds_659 : decode cL_holds 659 = .ok (.istore 13, 2) := by decide +kernel
theorem dL_holds_661 : decode cL_holds 661 = .ok (.iinc 14 1, 3) := by decide +kernel
theorem dL_holds_664 : decode cL_holds 664 = .ok (.goto (-34), 3) := by decide +kernel
theorem dL_holds_667 : decode cL_holds 667 = .ok (.iload 6, 2) := by decide +kernel
theorem dL_holds_669 : decode cL_holds 669 = .ok (.aload_n 0, 1) := by decide +kernel
theorem dL_holds_670 : decode cL_holds 670 = .ok (.iload 10, 2) := by decide +kernel
theorem dL_holds_672 : decode cL_holds 672 = .ok (.iconst 1, 1) := by decide +kernel
theorem dL_holds_673 : decode cL_holds 673 = .ok (.invokevirtual 19, 3) := by decide +kernel
theorem dL_holds_676 : decode cL_holds 676 = .ok (.iadd, 1) := by decide +kernel
theorem dL_holds_677 : decode cL_holds 677 = .ok (.istore 6, 2) := by decide +kernel
theorem dL_holds_679 : decode cL_holds 679 = .ok (.iload 7, 2) := by decide +kernel
theorem dL_holds_681 : decode cL_holds 681 = .ok (.aload_n 0, 1) := by decide +kernel
theorem dL_holds_682 : decode cL_holds 682 = .ok (.iload 10, 2) := by decide +kernel
theorem dL_holds_684 : decode cL_holds 684 = .ok (.iconst 0, 1) := by decide +kernel
theorem dL_holds_685 : decode cL_holds 685 = .ok (.invokevirtual 19, 3) := by decide +kernel
theorem dL_holds_688 : decode cL_holds 688 = .ok (.iadd, 1) := by decide +kernel
theorem dL_holds_689 : decode cL_holds 689 = .ok (.istore 7, 2) := by decide +kernel
theorem dL_holds_691 : decode cL_holds 691 = .ok (.iload 8, 2) := by decide +kernel
theorem dL_holds_693 : decode cL_holds 693 = .ok (.aload_n 0, 1) := by decide +kernel
theorem dL_holds_694 : decode cL_holds 694 = .ok (.iload 10, 2) := by decide +kernel
theorem dL_holds_696 : decode cL_holds 696 = .ok (.iconst 3, 1) := by decide +kernel
theorem dL_holds_697 : decode cL_holds 697 = .ok (.invokevirtual 19, 3) := by decide +kernel
theorem dL_holds_700 : decode cL_holds 700 = .ok (.iadd, 1) := by decide +kernel
theorem dL_holds_701 : decode cL_holds 701 = .ok (.istore 8, 2) := by decide +kernel
theorem dL_holds_703 : decode cL_holds 703 = .ok (.aload_n 0, 1) := by decide +kernel
theorem dL_holds_704 : decode cL_holds 704 = .ok (.iload 10, 2) := by decide +kernel
theorem dL_holds_706 : decode cL_holds 706 = .ok (.iconst 2, 1) := by decide +kernel
theorem dL_holds_707 : decode cL_holds 707 = .ok (.invokevirtual 19, 3) := by decide +kernel
theorem dL_holds_710 : decode cL_holds 710 = .ok (.ifCond .le 7, 3) := by decide +kernel
theorem dL_holds_713 : decode cL_holds 713 = .ok (.iconst 1, 1) := by decide +kernel
theorem dL_holds_714 : decode cL_holds 714 = .ok (.goto 4, 3) := by decide +kernel
theorem dL_holds_717 : decode cL_holds 717 = .ok (.iconst 0, 1) := by decide +kernel
theorem dL_holds_718 : decode cL_holds 718 = .ok (.aload_n 0, 1) := by decide +kernel
theorem dL_holds_719 : decode cL_holds 719 = .ok (.iload 10, 2) := by decide +kernel
theorem dL_holds_721 : decode cL_holds 721 = .ok (.iconst 1, 1) := by decide +kernel
theorem dL_holds_722 : decode cL_holds 722 = .ok (.invokevirtual 19, 3) := by decide +kernel
theorem dL_holds_725 : decode cL_holds 725 = .ok (.iconst 1, 1) := by decide +kernel
theorem dL_holds_726 : decode cL_holds 726 = .ok (.if_icmp .ne 7, 3) := by decide +kernel
theorem dL_holds_729 : decode cL_holds 729 = .ok (.iconst 1, 1) := by decide +kernel
theorem dL_holds_730 : decode cL_holds 730 = .ok (.goto 4, 3) := by decide +kernel
theorem dL_holds_733 : decode cL_holds 733 = .ok (.iconst 0, 1) := by decide +kernel
theorem dL_holds_734 : decode cL_holds 734 = .ok (.if_icmp .ne 116, 3) := by decide +kernel
theorem dL_holds_737 : decode cL_holds 737 = .ok (.aload_n 0, 1) := by decide +kernel
theorem dL_holds_738 : decode cL_holds 738 = .ok (.iload 10, 2) := by decide +kernel
theorem dL_holds_740 : decode cL_holds 740 = .ok (.iconst 2, 1) := by decide +kernel
theorem dL_holds_741 : decode cL_holds 741 = .ok (.invokevirtual 19, 3) := by decide +kernel
theorem dL_holds_744 : decode cL_holds 744 = .ok (.aload_n 0, 1) := by decide +kernel
theorem dL_holds_745 : decode cL_holds 745 = .ok (.iload 10, 2) := by decide +kernel
theorem dL_holds_747 : decode cL_holds 747 = .ok (.iconst 0, 1) := by decide +kernel
theorem dL_holds_748 : decode cL_holds 748 = .ok (.invokevirtual 19, 3) := by decide +kernel
theorem dL_holds_751 : decode cL_holds 751 = .ok (.if_icmp .lt 99, 3) := by decide +kernel
theorem dL_holds_754 : decode cL_holds 754 = .ok (.aload_n 0, 1) := by decide +kernel
theorem dL_holds_755 : decode cL_holds 755 = .ok (.iload 10, 2) := by decide +kernel
theorem dL_holds_757 : decode cL_holds 757 = .ok (.iconst 4, 1) := by decide +kernel
theorem dL_holds_758 : decode cL_holds 758 = .ok (.invokevirtual 19, 3) := by decide +kernel
theorem dL_holds_761 : decode cL_holds 761 = .ok (.iload 13, 2) := by decide +kernel
theorem dL_holds_763 : decode cL_holds 763 = .ok (.if_icmp .ne 87, 3) := by decide +kernel
theorem dL_holds_766 : decode cL_holds 766 = .ok (.aload_n 0, 1) := by decide +kernel
theorem dL_holds_767 : decode cL_holds 767 = .ok (.iload 10, 2) := by decide +kernel
theorem dL_holds_769 : decode cL_holds 769 = .ok (.iconst 5, 1) := by decide +kernel
theorem dL_holds_770 : decode cL_holds 770 = .ok (.invokevirtual 19, 3) := by decide +kernel
theorem dL_holds_773 : decode cL_holds 773 = .ok (.iload 11, 2) := by decide +kernel
theorem dL_holds_775 : decode cL_holds 775 = .ok (.if_icmp .ne 75, 3) := by decide +kernel
theorem dL_holds_778 : decode cL_holds 778 = .ok (.aload_n 0, 1) := by decide +kernel
theorem dL_holds_779 : decode cL_holds 779 = .ok (.iload 10, 2) := by decide +kernel
theorem dL_holds_781 : decode cL_holds 781 = .ok (.bipush 6, 2) := by decide +kernel
theorem dL_holds_783 : decode cL_holds 783 = .ok (.invokevirtual 19, 3) := by decide +kernel
theorem dL_holds_786 : decode cL_holds 786 = .ok (.iload 12, 2) := by decide +kernel
theorem dL_holds_788 : decode cL_holds 788 = .ok (.if_icmp .ne 62, 3) := by decide +kernel
theorem dL_holds_791 : decode cL_holds 791 = .ok (.aload_n 0, 1) := by decide +kernel
theorem dL_holds_792 : decode cL_holds 792 = .ok (.iload 10, 2) := by decide +kernel
theorem dL_holds_794 : decode cL_holds 794 = .ok (.bipush 7, 2) := by decide +kernel
theorem dL_holds_796 : decode cL_holds 796 = .ok (.invokevirtual 19, 3) := by decide +kernel
theorem dL_holds_799 : decode cL_holds 799 = .ok (.iconst 1, 1) := by decide +kernel
theorem dL_holds_800 : decode cL_holds 800 = .ok (.if_icmp .lt 50, 3) := by decide +kernel
theorem dL_holds_803 : decode cL_holds 803 = .ok (.aload_n 0, 1) := by decide +kernel
theorem dL_holds_804 : decode cL_holds 804 = .ok (.iload 10, 2) := by decide +kernel
theorem dL_holds_806 : decode cL_holds 806 = .ok (.bipush 7, 2) := by decide +kernel
theorem dL_holds_808 : decode cL_holds 808 = .ok (.invokevirtual 19, 3) := by decide +kernel
theorem dL_holds_811 : decode cL_holds 811 = .ok (.bipush 16, 2) := by decide +kernel
theorem dL_holds_813 : decode cL_holds 813 = .ok (.if_icmp .gt 37, 3) := by decide +kernel
theorem dL_holds_816 : decode cL_holds 816 = .ok (.iload 11, 2) := by decide +kernel
theorem dL_holds_818 : decode cL_holds 818 = .ok (.ifCond .ne 7, 3) := by decide +kernel
theorem dL_holds_821 : decode cL_holds 821 = .ok (.iconst 1, 1) := by decide +kernel
theorem dL_holds_822 : decode cL_holds 822 = .ok (.goto 4, 3) := by decide +kernel
theorem dL_holds_825 : decode cL_holds 825 = .ok (.iconst 0, 1) := by decide +kernel
theorem dL_holds_826 : decode cL_holds 826 = .ok (.aload_n 0, 1) := by decide +kernel
theorem dL_holds_827 : decode cL_holds 827 = .ok (.iload 10, 2) := by decide +kernel
theorem dL_holds_829 : decode cL_holds 829 = .ok (.bipush 7, 2) := by decide +kernel
theorem dL_holds_831 : decode cL_holds 831 = .ok (.invokevirtual 19, 3) := by decide +kernel
theorem dL_holds_834 : decode cL_holds 834 = .ok (.iconst 1, 1) := by decide +kernel
theorem dL_holds_835 : decode cL_holds 835 = .ok (.if_icmp .ne 7, 3) := by decide +kernel
theorem dL_holds_838 : decode cL_holds 838 = .ok (.iconst 1, 1) := by decide +kernel
theorem dL_holds_839 : decode cL_holds 839 = .ok (.goto 4, 3) := by decide +kernel
theorem dL_holds_842 : decode cL_holds 842 = .ok (.iconst 0, 1) := by decide +kernel
theorem dL_holds_843 : decode cL_holds 843 = .ok (.if_icmp .ne 7, 3) := by decide +kernel
theorem dL_holds_846 : decode cL_holds 846 = .ok (.iconst 1, 1) := by decide +kernel
theorem dL_holds_847 : decode cL_holds 847 = .ok (.goto 4, 3) := by decide +kernel
theorem dL_holds_850 : decode cL_holds 850 = .ok (.iconst 0, 1) := by decide +kernel
theorem dL_holds_851 : decode cL_holds 851 = .ok (.istore 9, 2) := by decide +kernel
theorem dL_holds_853 : decode cL_holds 853 = .ok (.iinc 10 1, 3) := by decide +kernel
theorem dL_holds_856 : decode cL_holds 856 = .ok (.goto (-357), 3) := by decide +kernel
theorem dL_holds_859 : decode cL_holds 859 = .ok (.iconst 0, 1) := by decide +kernel
theorem dL_holds_860 : decode cL_holds 860 = .ok (.istore 10, 2) := by decide +kernel
theorem dL_holds_862 : decode cL_holds 862 = .ok (.iload 10, 2) := by decide +kernel
theorem dL_holds_864 : decode cL_holds 864 = .ok (.iconst 4, 1) := by decide +kernel
theorem dL_holds_865 : decode cL_holds 865 = .ok (.if_icmp .ge 167, 3) := by decide +kernel
theorem dL_holds_868 : decode cL_holds 868 = .ok (.iload 9, 2) := by decide +kernel
theorem dL_holds_870 : decode cL_holds 870 = .ok (.ifCond .eq 162, 3) := by decide +kernel
theorem dL_holds_873 : decode cL_holds 873 = .ok (.aload_n 0, 1) := by decide +kernel
theorem dL_holds_874 : decode cL_holds 874 = .ok (.iload 10, 2) := by decide +kernel
theorem dL_holds_876 : decode cL_holds 876 = .ok (.iconst 0, 1) := by decide +kernel
theorem dL_holds_877 : decode cL_holds 877 = .ok (.invokevirtual 32, 3) := by decide +kernel
theorem dL_holds_880 : decode cL_holds 880 = .ok (.iconst 1, 1) := by decide +kernel
theorem dL_holds_881 : decode cL_holds 881 = .ok (.if_icmp .lt 142, 3) := by decide +kernel
theorem dL_holds_884 : decode cL_holds 884 = .ok (.aload_n 0, 1) := by decide +kernel
theorem dL_holds_885 : decode cL_holds 885 = .ok (.iload 10, 2) := by decide +kernel
theorem dL_holds_887 : decode cL_holds 887 = .ok (.iconst 0, 1) := by decide +kernel
theorem dL_holds_888 : decode cL_holds 888 = .ok (.invokevirtual 32, 3) := by decide +kernel
theorem dL_holds_891 : decode cL_holds 891 = .ok (.bipush 9, 2) := by decide +kernel
theorem dL_holds_893 : decode cL_holds 893 = .ok (.if_icmp .gt 130, 3) := by decide +kernel
theorem dL_holds_896 : decode cL_holds 896 = .ok (.aload_n 0, 1) := by decide +kernel
theorem dL_holds_897 : decode cL_holds 897 = .ok (.iload 10, 2) := by decide +kernel
theorem dL_holds_899 : decode cL_holds 899 = .ok (.iconst 3, 1) := by decide +kernel
theorem dL_holds_900 : decode cL_holds 900 = .ok (.invokevirtual 32, 3) := by decide +kernel
theorem dL_holds_903 : decode cL_holds 903 = .ok (.ifCond .lt 120, 3) := by decide +kernel
theorem dL_holds_906 : decode cL_holds 906 = .ok (.aload_n 0, 1) := by decide +kernel
theorem dL_holds_907 : decode cL_holds 907 = .ok (.iload 10, 2) := by decide +kernel
theorem dL_holds_909 : decode cL_holds 909 = .ok (.iconst 3, 1) := by decide +kernel
theorem dL_holds_910 : decode cL_holds 910 = .ok (.invokevirtual 32, 3) := by decide +kernel
theorem dL_holds_913 : decode cL_holds 913 = .ok (.bipush 16, 2) := by decide +kernel
theorem dL_holds_915 : decode cL_holds 915 = .ok (.if_icmp .ge 108, 3) := by decide +kernel
theorem dL_holds_918 : decode cL_holds 918 = .ok (.aload_n 0, 1) := by decide +kernel
theorem dL_holds_919 : decode cL_holds 919 = .ok (.iload 10, 2) := by decide +kernel
theorem dL_holds_921 : decode cL_holds 921 = .ok (.iconst 5, 1) := by decide +kernel
theorem dL_holds_922 : decode cL_holds 922 = .ok (.invokevirtual 32, 3) := by decide +kernel
theorem dL_holds_925 : decode cL_holds 925 = .ok (.aload_n 0, 1) := by decide +kernel
theorem dL_holds_926 : decode cL_holds 926 = .ok (.iload 10, 2) := by decide +kernel
theorem dL_holds_928 : decode cL_holds 928 = .ok (.iconst 4, 1) := by decide +kernel
theorem dL_holds_929 : decode cL_holds 929 = .ok (.invokevirtual 32, 3) := by decide +kernel
theorem dL_holds_932 : decode cL_holds 932 = .ok (.if_icmp .gt 91, 3) := by decide +kernel
theorem dL_holds_935 : decode cL_holds 935 = .ok (.aload_n 0, 1) := by decide +kernel
theorem dL_holds_936 : decode cL_holds 936 = .ok (.iload 10, 2) := by decide +kernel
theorem dL_holds_938 : decode cL_holds 938 = .ok (.bipush 6, 2) := by decide +kernel
theorem dL_holds_940 : decode cL_holds 940 = .ok (.invokevirtual 32, 3) := by decide +kernel
theorem dL_holds_943 : decode cL_holds 943 = .ok (.aload_n 0, 1) := by decide +kernel
theorem dL_holds_944 : decode cL_holds 944 = .ok (.aload_n 0, 1) := by decide +kernel
theorem dL_holds_945 : decode cL_holds 945 = .ok (.iload 10, 2) := by decide +kernel
theorem dL_holds_947 : decode cL_holds 947 = .ok (.iconst 3, 1) := by decide +kernel
theorem dL_holds_948 : decode cL_holds 948 = .ok (.invokevirtual 32, 3) := by decide +kernel
theorem dL_holds_951 : decode cL_holds 951 = .ok (.iconst 5, 1) := by decide +kernel
theorem dL_holds_952 : decode cL_holds 952 = .ok (.invokevirtual 19, 3) := by decide +kernel
theorem dL_holds_955 : decode cL_holds 955 = .ok (.if_icmp .gt 68, 3) := by decide +kernel
theorem dL_holds_958 : decode cL_holds 958 = .ok (.aload_n 0, 1) := by decide +kernel
theorem dL_holds_959 : decode cL_holds 959 = .ok (.iload 10, 2) := by decide +kernel
theorem dL_holds_961 : decode cL_holds 961 = .ok (.bipush 7, 2) := by decide +kernel
theorem dL_holds_963 : decode cL_holds 963 = .ok (.invokevirtual 32, 3) := by decide +kernel
theorem dL_holds_966 : decode cL_holds 966 = .ok (.ifCond .lt 57, 3) := by decide +kernel
theorem dL_holds_969 : decode cL_holds 969 = .ok (.aload_n 0, 1) := by decide +kernel
theorem dL_holds_970 : decode cL_holds 970 = .ok (.iload 10, 2) := by decide +kernel
theorem dL_holds_972 : decode cL_holds 972 = .ok (.bipush 8, 2) := by decide +kernel
theorem dL_holds_974 : decode cL_holds 974 = .ok (.invokevirtual 32, 3) := by decide +kernel
theorem dL_holds_977 : decode cL_holds 977 = .ok (.bipush 24, 2) := by decide +kernel
theorem dL_holds_979 : decode cL_holds 979 = .ok (.iload_n 1, 1) := by decide +kernel
theorem dL_holds_980 : decode cL_holds 980 = .ok (.isub, 1) := by decide +kernel
theorem dL_holds_981 : decode cL_holds 981 = .ok (.if_icmp .gt 42, 3) := by decide +kernel
theorem dL_holds_984 : decode cL_holds 984 = .ok (.aload_n 0, 1) := by decide +kernel
theorem dL_holds_985 : decode cL_holds 985 = .ok (.iload 10, 2) := by decide +kernel
theorem dL_holds_987 : decode cL_holds 987 = .ok (.invokevirtual 35, 3) := by decide +kernel
theorem dL_holds_990 : decode cL_holds 990 = .ok (.bipush (-4), 2) := by decide +kernel
theorem dL_holds_992 : decode cL_holds 992 = .ok (.if_icmp .ne 7, 3) := by decide +kernel
theorem dL_holds_995 : decode cL_holds 995 = .ok (.iconst 1, 1) := by decide +kernel
theorem dL_holds_996 : decode cL_holds 996 = .ok (.goto 4, 3) := by decide +kernel
theorem dL_holds_999 : decode cL_holds 999 = .ok (.iconst 0, 1) := by decide +kernel
theorem dL_holds_1000 : decode cL_holds 1000 = .ok (.aload_n 0, 1) := by decide +kernel
theorem dL_holds_1001 : decode cL_holds 1001 = .ok (.iload 10, 2) := by decide +kernel
theorem dL_holds_1003 : decode cL_holds 1003 = .ok (.bipush 8, 2) := by decide +kernel
theorem dL_holds_1005 : decode cL_holds 1005 = .ok (.invokevirtual 32, 3) := by decide +kernel
theorem dL_holds_1008 : decode cL_holds 1008 = .ok (.ifCond .ne 7, 3) := by decide +kernel
theorem dL_holds_1011 : decode cL_holds 1011 = .ok (.iconst 1, 1) := by decide +kernel
theorem dL_holds_1012 : decode cL_holds 1012 = .ok (.goto 4, 3) := by decide +kernel
theorem dL_holds_1015 : decode cL_holds 1015 = .ok (.iconst 0, 1) := by decide +kernel
theorem dL_holds_1016 : decode cL_holds 1016 = .ok (.if_icmp .ne 7, 3) := by decide +kernel
theorem dL_holds_1019 : decode cL_holds 1019 = .ok (.iconst 1, 1) := by decide +kernel
theorem dL_holds_1020 : decode cL_holds 1020 = .ok (.goto 4, 3) := by decide +kernel
theorem dL_holds_1023 : decode cL_holds 1023 = .ok (.iconst 0, 1) := by decide +kernel
theorem dL_holds_1024 : decode cL_holds 1024 = .ok (.istore 9, 2) := by decide +kernel
theorem dL_holds_1026 : decode cL_holds 1026 = .ok (.iinc 10 1, 3) := by decide +kernel
theorem dL_holds_1029 : decode cL_holds 1029 = .ok (.goto (-167), 3) := by decide +kernel
theorem dL_holds_1032 : decode cL_holds 1032 = .ok (.iload 9, 2) := by decide +kernel
theorem dL_holds_1034 : decode cL_holds 1034 = .ok (.ifCond .eq 109, 3) := by decide +kernel
theorem dL_holds_1037 : decode cL_holds 1037 = .ok (.iload_n 1, 1) := by decide +kernel
theorem dL_holds_1038 : decode cL_holds 1038 = .ok (.aload_n 0, 1) := by decide +kernel
theorem dL_holds_1039 : decode cL_holds 1039 = .ok (.iconst 5, 1) := by decide +kernel
theorem dL_holds_1040 : decode cL_holds 1040 = .ok (.invokevirtual 13, 3) := by decide +kernel
theorem dL_holds_1043 : decode cL_holds 1043 = .ok (.if_icmp .ne 100, 3) := by decide +kernel
theorem dL_holds_1046 : decode cL_holds 1046 = .ok (.iload_n 2, 1) := by decide +kernel
theorem dL_holds_1047 : decode cL_holds 1047 = .ok (.aload_n 0, 1) := by decide +kernel
theorem dL_holds_1048 : decode cL_holds 1048 = .ok (.bipush 6, 2) := by decide +kernel
theorem dL_holds_1050 : decode cL_holds 1050 = .ok (.invokevirtual 13, 3) := by decide +kernel
theorem dL_holds_1053 : decode cL_holds 1053 = .ok (.if_icmp .ne 90, 3) := by decide +kernel
theorem dL_holds_1056 : decode cL_holds 1056 = .ok (.iload_n 3, 1) := by decide +kernel
theorem dL_holds_1057 : decode cL_holds 1057 = .ok (.aload_n 0, 1) := by decide +kernel
theorem dL_holds_1058 : decode cL_holds 1058 = .ok (.bipush 7, 2) := by decide +kernel
theorem dL_holds_1060 : decode cL_holds 1060 = .ok (.invokevirtual 13, 3) := by decide +kernel
theorem dL_holds_1063 : decode cL_holds 1063 = .ok (.if_icmp .ne 80, 3) := by decide +kernel
theorem dL_holds_1066 : decode cL_holds 1066 = .ok (.iload 4, 2) := by decide +kernel
theorem dL_holds_1068 : decode cL_holds 1068 = .ok (.aload_n 0, 1) := by decide +kernel
theorem dL_holds_1069 : decode cL_holds 1069 = .ok (.bipush 8, 2) := by decide +kernel
theorem dL_holds_1071 : decode cL_holds 1071 = .ok (.invokevirtual 13, 3) := by decide +kernel
theorem dL_holds_1074 : decode cL_holds 1074 = .ok (.if_icmp .ne 69, 3) := by decide +kernel
theorem dL_holds_1077 : decode cL_holds 1077 = .ok (.iload 5, 2) := by decide +kernel
theorem dL_holds_1079 : decode cL_holds 1079 = .ok (.aload_n 0, 1) := by decide +kernel
theorem dL_holds_1080 : decode cL_holds 1080 = .ok (.bipush 9, 2) := by decide +kernel
theorem dL_holds_1082 : decode cL_holds 1082 = .ok (.invokevirtual 13, 3) := by decide +kernel
theorem dL_holds_1085 : decode cL_holds 1085 = .ok (.if_icmp .ne 58, 3) := by decide +kernel
theorem dL_holds_1088 : decode cL_holds 1088 = .ok (.iload 7, 2) := by decide +kernel
theorem dL_holds_1090 : decode cL_holds 1090 = .ok (.aload_n 0, 1) := by decide +kernel
theorem dL_holds_1091 : decode cL_holds 1091 = .ok (.iconst 2, 1) := by decide +kernel
theorem dL_holds_1092 : decode cL_holds 1092 = .ok (.invokevirtual 13, 3) := by decide +kernel
theorem dL_holds_1095 : decode cL_holds 1095 = .ok (.if_icmp .ne 48, 3) := by decide +kernel
theorem dL_holds_1098 : decode cL_holds 1098 = .ok (.iload 6, 2) := by decide +kernel
theorem dL_holds_1100 : decode cL_holds 1100 = .ok (.aload_n 0, 1) := by decide +kernel
theorem dL_holds_1101 : decode cL_holds 1101 = .ok (.iconst 3, 1) := by decide +kernel
theorem dL_holds_1102 : decode cL_holds 1102 = .ok (.invokevirtual 13, 3) := by decide +kernel
theorem dL_holds_1105 : decode cL_holds 1105 = .ok (.if_icmp .ne 38, 3) := by decide +kernel
theorem dL_holds_1108 : decode cL_holds 1108 = .ok (.iload 8, 2) := by decide +kernel
theorem dL_holds_1110 : decode cL_holds 1110 = .ok (.aload_n 0, 1) := by decide +kernel
theorem dL_holds_1111 : decode cL_holds 1111 = .ok (.iconst 4, 1) := by decide +kernel
theorem dL_holds_1112 : decode cL_holds 1112 = .ok (.invokevirtual 13, 3) := by decide +kernel
theorem dL_holds_1115 : decode cL_holds 1115 = .ok (.if_icmp .ne 28, 3) := by decide +kernel
theorem dL_holds_1118 : decode cL_holds 1118 = .ok (.aload_n 0, 1) := by decide +kernel
theorem dL_holds_1119 : decode cL_holds 1119 = .ok (.invokevirtual 38, 3) := by decide +kernel
theorem dL_holds_1122 : decode cL_holds 1122 = .ok (.iload_n 1, 1) := by decide +kernel
theorem dL_holds_1123 : decode cL_holds 1123 = .ok (.ifCond .ne 7, 3) := by decide +kernel
theorem dL_holds_1126 : decode cL_holds 1126 = .ok (.dconst 1, 1) := by decide +kernel
theorem dL_holds_1127 : decode cL_holds 1127 = .ok (.goto 8, 3) := by decide +kernel
theorem dL_holds_1130 : decode cL_holds 1130 = .ok (.iload_n 2, 1) := by decide +kernel
theorem dL_holds_1131 : decode cL_holds 1131 = .ok (.i2d, 1) := by decide +kernel
theorem dL_holds_1132 : decode cL_holds 1132 = .ok (.iload_n 1, 1) := by decide +kernel
theorem dL_holds_1133 : decode cL_holds 1133 = .ok (.i2d, 1) := by decide +kernel
theorem dL_holds_1134 : decode cL_holds 1134 = .ok (.ddiv, 1) := by decide +kernel
theorem dL_holds_1135 : decode cL_holds 1135 = .ok (.dcmp .l, 1) := by decide +kernel
theorem dL_holds_1136 : decode cL_holds 1136 = .ok (.ifCond .ne 7, 3) := by decide +kernel
theorem dL_holds_1139 : decode cL_holds 1139 = .ok (.iconst 1, 1) := by decide +kernel
theorem dL_holds_1140 : decode cL_holds 1140 = .ok (.goto 4, 3) := by decide +kernel
theorem dL_holds_1143 : decode cL_holds 1143 = .ok (.iconst 0, 1) := by decide +kernel
theorem dL_holds_1144 : decode cL_holds 1144 = .ok (.ireturn, 1) := by decide +kernel
theorem dL_would_0 : decode cL_would 0 = .ok (.iload_n 1, 1) := by decide +kernel
theorem dL_would_1 : decode cL_would 1 = .ok (.iconst 5, 1) := by decide +kernel
theorem dL_would_2 : decode cL_would 2 = .ok (.invokestatic 42, 3) := by decide +kernel
theorem dL_would_5 : decode cL_would 5 = .ok (.istore_n 2, 1) := by decide +kernel
theorem dL_would_6 : decode cL_would 6 = .ok (.iload_n 1, 1) := by decide +kernel
theorem dL_would_7 : decode cL_would 7 = .ok (.iconst 3, 1) := by decide +kernel
theorem dL_would_8 : decode cL_would 8 = .ok (.ishr, 1) := by decide +kernel
theorem dL_would_9 : decode cL_would 9 = .ok (.bipush 30, 2) := by decide +kernel
theorem dL_would_11 : decode cL_would 11 = .ok (.invokestatic 42, 3) := by decide +kernel
theorem dL_would_14 : decode cL_would 14 = .ok (.iconst 1, 1) := by decide +kernel
theorem dL_would_15 : decode cL_would 15 = .ok (.isub, 1) := by decide +kernel
theorem dL_would_16 : decode cL_would 16 = .ok (.istore_n 3, 1) := by decide +kernel
theorem dL_would_17 : decode cL_would 17 = .ok (.aload_n 0, 1) := by decide +kernel
theorem dL_would_18 : decode cL_would 18 = .ok (.iload_n 2, 1) := by decide +kernel
theorem dL_would_19 : decode cL_would 19 = .ok (.iload_n 3, 1) := by decide +kernel
theorem dL_would_20 : decode cL_would 20 = .ok (.invokevirtual 45, 3) := by decide +kernel
theorem dL_would_23 : decode cL_would 23 = .ok (.istore 4, 2) := by decide +kernel
theorem dL_would_25 : decode cL_would 25 = .ok (.iload_n 1, 1) := by decide +kernel
theorem dL_would_26 : decode cL_would 26 = .ok (.iconst 5, 1) := by decide +kernel
theorem dL_would_27 : decode cL_would 27 = .ok (.ishr, 1) := by decide +kernel
theorem dL_would_28 : decode cL_would 28 = .ok (.bipush 17, 2) := by decide +kernel
theorem dL_would_30 : decode cL_would 30 = .ok (.invokestatic 42, 3) := by decide +kernel
theorem dL_would_33 : decode cL_would 33 = .ok (.istore 5, 2) := by decide +kernel
theorem dL_would_35 : decode cL_would 35 = .ok (.iload_n 1, 1) := by decide +kernel
theorem dL_would_36 : decode cL_would 36 = .ok (.bipush 9, 2) := by decide +kernel
theorem dL_would_38 : decode cL_would 38 = .ok (.ishr, 1) := by decide +kernel
theorem dL_would_39 : decode cL_would 39 = .ok (.bipush 17, 2) := by decide +kernel
theorem dL_would_41 : decode cL_would 41 = .ok (.invokestatic 42, 3) := by decide +kernel
theorem dL_would_44 : decode cL_would 44 = .ok (.istore 6, 2) := by decide +kernel
theorem dL_would_46 : decode cL_would 46 = .ok (.aload_n 0, 1) := by decide +kernel
theorem dL_would_47 : decode cL_would 47 = .ok (.iload 5, 2) := by decide +kernel
theorem dL_would_49 : decode cL_would 49 = .ok (.iload 6, 2) := by decide +kernel
theorem dL_would_51 : decode cL_would 51 = .ok (.iload_n 1, 1) := by decide +kernel
theorem dL_would_52 : decode cL_would 52 = .ok (.iconst 4, 1) := by decide +kernel
theorem dL_would_53 : decode cL_would 53 = .ok (.ishr, 1) := by decide +kernel
theorem dL_would_54 : decode cL_would 54 = .ok (.iconst 2, 1) := by decide +kernel
theorem dL_would_55 : decode cL_would 55 = .ok (.invokestatic 42, 3) := by decide +kernel
theorem dL_would_58 : decode cL_would 58 = .ok (.invokevirtual 48, 3) := by decide +kernel
theorem dL_would_61 : decode cL_would 61 = .ok (.istore 7, 2) := by decide +kernel
theorem dL_would_63 : decode cL_would 63 = .ok (.aload_n 0, 1) := by decide +kernel
theorem dL_would_64 : decode cL_would 64 = .ok (.iload_n 2, 1) := by decide +kernel
theorem dL_would_65 : decode cL_would 65 = .ok (.iload 6, 2) := by decide +kernel
theorem dL_would_67 : decode cL_would 67 = .ok (.invokevirtual 52, 3) := by decide +kernel
theorem dL_would_70 : decode cL_would 70 = .ok (.istore 8, 2) := by decide +kernel
theorem dL_would_72 : decode cL_would 72 = .ok (.iload_n 1, 1) := by decide +kernel
theorem dL_would_73 : decode cL_would 73 = .ok (.bipush 7, 2) := by decide +kernel
theorem dL_would_75 : decode cL_would 75 = .ok (.ishr, 1) := by decide +kernel
theorem dL_would_76 : decode cL_would 76 = .ok (.bipush 6, 2) := by decide +kernel
theorem dL_would_78 : decode cL_would 78 = .ok (.invokestatic 42, 3) := by decide +kernel
theorem dL_would_81 : decode cL_would 81 = .ok (.iconst 1, 1) := by decide +kernel
theorem dL_would_82 : decode cL_would 82 = .ok (.isub, 1) := by decide +kernel
theorem dL_would_83 : decode cL_would 83 = .ok (.istore 9, 2) := by decide +kernel
theorem dL_would_85 : decode cL_would 85 = .ok (.aload_n 0, 1) := by decide +kernel
theorem dL_would_86 : decode cL_would 86 = .ok (.iload 9, 2) := by decide +kernel
theorem dL_would_88 : decode cL_would 88 = .ok (.invokevirtual 55, 3) := by decide +kernel
theorem dL_would_91 : decode cL_would 91 = .ok (.istore 10, 2) := by decide +kernel
theorem dL_would_93 : decode cL_would 93 = .ok (.aload_n 0, 1) := by decide +kernel
theorem dL_would_94 : decode cL_would 94 = .ok (.invokevirtual 58, 3) := by decide +kernel
theorem dL_would_97 : decode cL_would 97 = .ok (.istore 11, 2) := by decide +kernel
theorem dL_would_99 : decode cL_would 99 = .ok (.iload_n 1, 1) := by decide +kernel
theorem dL_would_100 : decode cL_would 100 = .ok (.bipush 6, 2) := by decide +kernel
theorem dL_would_102 : decode cL_would 102 = .ok (.ishr, 1) := by decide +kernel
theorem dL_would_103 : decode cL_would 103 = .ok (.bipush 32, 2) := by decide +kernel
theorem dL_would_105 : decode cL_would 105 = .ok (.invokestatic 42, 3) := by decide +kernel
theorem dL_would_108 : decode cL_would 108 = .ok (.istore 12, 2) := by decide +kernel
theorem dL_would_110 : decode cL_would 110 = .ok (.iload_n 1, 1) := by decide +kernel
theorem dL_would_111 : decode cL_would 111 = .ok (.bipush 11, 2) := by decide +kernel
theorem dL_would_113 : decode cL_would 113 = .ok (.ishr, 1) := by decide +kernel
theorem dL_would_114 : decode cL_would 114 = .ok (.bipush 6, 2) := by decide +kernel
theorem dL_would_116 : decode cL_would 116 = .ok (.invokestatic 42, 3) := by decide +kernel
theorem dL_would_119 : decode cL_would 119 = .ok (.iconst 1, 1) := by decide +kernel
theorem dL_would_120 : decode cL_would 120 = .ok (.isub, 1) := by decide +kernel
theorem dL_would_121 : decode cL_would 121 = .ok (.istore 13, 2) := by decide +kernel
theorem dL_would_123 : decode cL_would 123 = .ok (.aload_n 0, 1) := by decide +kernel
theorem dL_would_124 : decode cL_would 124 = .ok (.iload 12, 2) := by decide +kernel
theorem dL_would_126 : decode cL_would 126 = .ok (.iload 13, 2) := by decide +kernel
theorem dL_would_128 : decode cL_would 128 = .ok (.invokevirtual 62, 3) := by decide +kernel
theorem dL_would_131 : decode cL_would 131 = .ok (.istore 14, 2) := by decide +kernel
theorem dL_would_133 : decode cL_would 133 = .ok (.iload_n 2, 1) := by decide +kernel
theorem dL_would_134 : decode cL_would 134 = .ok (.iconst 4, 1) := by decide +kernel
theorem dL_would_135 : decode cL_would 135 = .ok (.if_icmp .eq 10, 3) := by decide +kernel
theorem dL_would_138 : decode cL_would 138 = .ok (.iload_n 3, 1) := by decide +kernel
theorem dL_would_139 : decode cL_would 139 = .ok (.invokestatic 23, 3) := by decide +kernel
theorem dL_would_142 : decode cL_would 142 = .ok (.ifCond .ne 7, 3) := by decide +kernel
theorem dL_would_145 : decode cL_would 145 = .ok (.iconst 1, 1) := by decide +kernel
theorem dL_would_146 : decode cL_would 146 = .ok (.goto 4, 3) := by decide +kernel
theorem dL_would_149 : decode cL_would 149 = .ok (.iconst 0, 1) := by decide +kernel
theorem dL_would_150 : decode cL_would 150 = .ok (.istore 15, 2) := by decide +kernel
theorem dL_would_152 : decode cL_would 152 = .ok (.iload 5, 2) := by decide +kernel
theorem dL_would_154 : decode cL_would 154 = .ok (.bipush 16, 2) := by decide +kernel
theorem dL_would_156 : decode cL_would 156 = .ok (.if_icmp .eq 10, 3) := by decide +kernel
theorem dL_would_159 : decode cL_would 159 = .ok (.iload 6, 2) := by decide +kernel
theorem dL_would_161 : decode cL_would 161 = .ok (.bipush 16, 2) := by decide +kernel
theorem dL_would_163 : decode cL_would 163 = .ok (.if_icmp .ne 7, 3) := by decide +kernel
theorem dL_would_166 : decode cL_would 166 = .ok (.iconst 1, 1) := by decide +kernel
theorem dL_would_167 : decode cL_would 167 = .ok (.goto 4, 3) := by decide +kernel
theorem dL_would_170 : decode cL_would 170 = .ok (.iconst 0, 1) := by decide +kernel
theorem dL_would_171 : decode cL_would 171 = .ok (.istore 16, 2) := by decide +kernel
theorem dL_would_173 : decode cL_would 173 = .ok (.iload 12, 2) := by decide +kernel
theorem dL_would_175 : decode cL_would 175 = .ok (.ifCond .eq 21, 3) := by decide +kernel
theorem dL_would_178 : decode cL_would 178 = .ok (.iload 12, 2) := by decide +kernel
theorem dL_would_180 : decode cL_would 180 = .ok (.bipush 31, 2) := by decide +kernel
theorem dL_would_182 : decode cL_would 182 = .ok (.if_icmp .eq 14, 3) := by decide +kernel
theorem dL_would_185 : decode cL_would 185 = .ok (.iload 13, 2) := by decide +kernel
theorem dL_would_187 : decode cL_would 187 = .ok (.ifCond .lt 9, 3) := by decide +kernel
theorem dL_would_190 : decode cL_would 190 = .ok (.iload 13, 2) := by decide +kernel
theorem dL_would_192 : decode cL_would 192 = .ok (.iconst 3, 1) := by decide +kernel
theorem dL_would_193 : decode cL_would 193 = .ok (.if_icmp .le 7, 3) := by decide +kernel
theorem dL_would_196 : decode cL_would 196 = .ok (.iconst 1, 1) := by decide +kernel
theorem dL_would_197 : decode cL_would 197 = .ok (.goto 4, 3) := by decide +kernel
theorem dL_would_200 : decode cL_would 200 = .ok (.iconst 0, 1) := by decide +kernel
theorem dL_would_201 : decode cL_would 201 = .ok (.istore 17, 2) := by decide +kernel
theorem dL_would_203 : decode cL_would 203 = .ok (.iload 15, 2) := by decide +kernel
theorem dL_would_205 : decode cL_would 205 = .ok (.ifCond .eq 12, 3) := by decide +kernel
theorem dL_would_208 : decode cL_would 208 = .ok (.iload 4, 2) := by decide +kernel
theorem dL_would_210 : decode cL_would 210 = .ok (.iconst (-1), 1) := by decide +kernel
theorem dL_would_211 : decode cL_would 211 = .ok (.if_icmp .ne 186, 3) := by decide +kernel
theorem dL_would_214 : decode cL_would 214 = .ok (.goto 59, 3) := by decide +kernel
theorem dL_would_217 : decode cL_would 217 = .ok (.iload 4, 2) := by decide +kernel
theorem dL_would_219 : decode cL_would 219 = .ok (.ifCond .lt 178, 3) := by decide +kernel
theorem dL_would_222 : decode cL_would 222 = .ok (.iload 4, 2) := by decide +kernel
theorem dL_would_224 : decode cL_would 224 = .ok (.iconst 5, 1) := by decide +kernel
theorem dL_would_225 : decode cL_would 225 = .ok (.if_icmp .gt 172, 3) := by decide +kernel
theorem dL_would_228 : decode cL_would 228 = .ok (.iload 4, 2) := by decide +kernel
theorem dL_would_230 : decode cL_would 230 = .ok (.iconst 1, 1) := by decide +kernel
theorem dL_would_231 : decode cL_would 231 = .ok (.if_icmp .ne 7, 3) := by decide +kernel
theorem dL_would_234 : decode cL_would 234 = .ok (.iconst 1, 1) := by decide +kernel
theorem dL_would_235 : decode cL_would 235 = .ok (.goto 4, 3) := by decide +kernel
theorem dL_would_238 : decode cL_would 238 = .ok (.iconst 0, 1) := by decide +kernel
theorem dL_would_239 : decode cL_would 239 = .ok (.aload_n 0, 1) := by decide +kernel
theorem dL_would_240 : decode cL_would 240 = .ok (.iload_n 3, 1) := by decide +kernel
theorem dL_would_241 : decode cL_would 241 = .ok (.iconst 0, 1) := by decide +kernel
theorem dL_would_242 : decode cL_would 242 = .ok (.invokevirtual 29, 3) := by decide +kernel
theorem dL_would_245 : decode cL_would 245 = .ok (.ifCond .ne 7, 3) := by decide +kernel
theorem dL_would_248 : decode cL_would 248 = .ok (.iconst 1, 1) := by decide +kernel
theorem dL_would_249 : decode cL_would 249 = .ok (.goto 4, 3) := by decide +kernel
theorem dL_would_252 : decode cL_would 252 = .ok (.iconst 0, 1) := by decide +kernel
theorem dL_would_253 : decode cL_would 253 = .ok (.if_icmp .ne 144, 3) := by decide +kernel
theorem dL_would_256 : decode cL_would 256 = .ok (.iload 4, 2) := by decide +kernel
theorem dL_would_258 : decode cL_would 258 = .ok (.iconst 2, 1) := by decide +kernel
theorem dL_would_259 : decode cL_would 259 = .ok (.if_icmp .ne 14, 3) := by decide +kernel
theorem dL_would_262 : decode cL_would 262 = .ok (.aload_n 0, 1) := by decide +kernel
theorem dL_would_263 : decode cL_would 263 = .ok (.iload_n 3, 1) := by decide +kernel
theorem dL_would_264 : decode cL_would 264 = .ok (.iconst 3, 1) := by decide +kernel
theorem dL_would_265 : decode cL_would 265 = .ok (.invokevirtual 29, 3) := by decide +kernel
theorem dL_would_268 : decode cL_would 268 = .ok (.bipush (-4), 2) := by decide +kernel
theorem dL_would_270 : decode cL_would 270 = .ok (.if_icmp .eq 127, 3) := by decide +kernel
theorem dL_would_273 : decode cL_would 273 = .ok (.iload 16, 2) := by decide +kernel
theorem dL_would_275 : decode cL_would 275 = .ok (.ifCond .eq 12, 3) := by decide +kernel
theorem dL_would_278 : decode cL_would 278 = .ok (.iload 7, 2) := by decide +kernel
theorem dL_would_280 : decode cL_would 280 = .ok (.iconst (-1), 1) := by decide +kernel
theorem dL_would_281 : decode cL_would 281 = .ok (.if_icmp .ne 116, 3) := by decide +kernel
theorem dL_would_284 : decode cL_would 284 = .ok (.goto 40, 3) := by decide +kernel
theorem dL_would_287 : decode cL_would 287 = .ok (.iload 5, 2) := by decide +kernel
theorem dL_would_289 : decode cL_would 289 = .ok (.iload 6, 2) := by decide +kernel
theorem dL_would_291 : decode cL_would 291 = .ok (.if_icmp .ne 13, 3) := by decide +kernel
theorem dL_would_294 : decode cL_would 294 = .ok (.iload 7, 2) := by decide +kernel
theorem dL_would_296 : decode cL_would 296 = .ok (.bipush 10, 2) := by decide +kernel
theorem dL_would_298 : decode cL_would 298 = .ok (.if_icmp .ne 99, 3) := by decide +kernel
theorem dL_would_301 : decode cL_would 301 = .ok (.goto 23, 3) := by decide +kernel
theorem dL_would_304 : decode cL_would 304 = .ok (.iload 7, 2) := by decide +kernel
theorem dL_would_306 : decode cL_would 306 = .ok (.bipush (-4), 2) := by decide +kernel
theorem dL_would_308 : decode cL_would 308 = .ok (.if_icmp .eq 16, 3) := by decide +kernel
theorem dL_would_311 : decode cL_would 311 = .ok (.iload 7, 2) := by decide +kernel
theorem dL_would_313 : decode cL_would 313 = .ok (.iconst 1, 1) := by decide +kernel
theorem dL_would_314 : decode cL_would 314 = .ok (.if_icmp .lt 83, 3) := by decide +kernel
theorem dL_would_317 : decode cL_would 317 = .ok (.iload 7, 2) := by decide +kernel
theorem dL_would_319 : decode cL_would 319 = .ok (.bipush 9, 2) := by decide +kernel
theorem dL_would_321 : decode cL_would 321 = .ok (.if_icmp .gt 76, 3) := by decide +kernel
theorem dL_would_324 : decode cL_would 324 = .ok (.iload_n 2, 1) := by decide +kernel
theorem dL_would_325 : decode cL_would 325 = .ok (.iconst 4, 1) := by decide +kernel
theorem dL_would_326 : decode cL_would 326 = .ok (.if_icmp .eq 10, 3) := by decide +kernel
theorem dL_would_329 : decode cL_would 329 = .ok (.iload 6, 2) := by decide +kernel
theorem dL_would_331 : decode cL_would 331 = .ok (.bipush 16, 2) := by decide +kernel
theorem dL_would_333 : decode cL_would 333 = .ok (.if_icmp .ne 12, 3) := by decide +kernel
theorem dL_would_336 : decode cL_would 336 = .ok (.iload 8, 2) := by decide +kernel
theorem dL_would_338 : decode cL_would 338 = .ok (.iconst (-1), 1) := by decide +kernel
theorem dL_would_339 : decode cL_would 339 = .ok (.if_icmp .ne 58, 3) := by decide +kernel
theorem dL_would_342 : decode cL_would 342 = .ok (.goto 51, 3) := by decide +kernel
theorem dL_would_345 : decode cL_would 345 = .ok (.iload 8, 2) := by decide +kernel
theorem dL_would_347 : decode cL_would 347 = .ok (.ifCond .ne 7, 3) := by decide +kernel
theorem dL_would_350 : decode cL_would 350 = .ok (.iconst 1, 1) := by decide +kernel
theorem dL_would_351 : decode cL_would 351 = .ok (.goto 4, 3) := by decide +kernel
theorem dL_would_354 : decode cL_would 354 = .ok (.iconst 0, 1) := by decide +kernel
theorem dL_would_355 : decode cL_would 355 = .ok (.aload_n 0, 1) := by decide +kernel
theorem dL_would_356 : decode cL_would 356 = .ok (.iload_n 2, 1) := by decide +kernel
theorem dL_would_357 : decode cL_would 357 = .ok (.iconst 3, 1) := by decide +kernel
theorem dL_would_358 : decode cL_would 358 = .ok (.invokevirtual 32, 3) := by decide +kernel
theorem dL_would_361 : decode cL_would 361 = .ok (.iload 6, 2) := by decide +kernel
theorem dL_would_363 : decode cL_would 363 = .ok (.if_icmp .ne 7, 3) := by decide +kernel
theorem dL_would_366 : decode cL_would 366 = .ok (.iconst 1, 1) := by decide +kernel
theorem dL_would_367 : decode cL_would 367 = .ok (.goto 4, 3) := by decide +kernel
theorem dL_would_370 : decode cL_would 370 = .ok (.iconst 0, 1) := by decide +kernel
theorem dL_would_371 : decode cL_would 371 = .ok (.if_icmp .ne 26, 3) := by decide +kernel
theorem dL_would_374 : decode cL_would 374 = .ok (.iload 8, 2) := by decide +kernel
theorem dL_would_376 : decode cL_would 376 = .ok (.bipush (-4), 2) := by decide +kernel
theorem dL_would_378 : decode cL_would 378 = .ok (.if_icmp .eq 15, 3) := by decide +kernel
theorem dL_would_381 : decode cL_would 381 = .ok (.iload 8, 2) := by decide +kernel
theorem dL_would_383 : decode cL_would 383 = .ok (.ifCond .lt 14, 3) := by decide +kernel
theorem dL_would_386 : decode cL_would 386 = .ok (.iload 8, 2) := by decide +kernel
theorem dL_would_388 : decode cL_would 388 = .ok (.bipush 15, 2) := by decide +kernel
theorem dL_would_390 : decode cL_would 390 = .ok (.if_icmp .gt 7, 3) := by decide +kernel
theorem dL_would_393 : decode cL_would 393 = .ok (.iconst 1, 1) := by decide +kernel
theorem dL_would_394 : decode cL_would 394 = .ok (.goto 4, 3) := by decide +kernel
theorem dL_would_397 : decode cL_would 397 = .ok (.iconst 0, 1) := by decide +kernel
theorem dL_would_398 : decode cL_would 398 = .ok (.istore 18, 2) := by decide +kernel
theorem dL_would_400 : decode cL_would 400 = .ok (.iload 18, 2) := by decide +kernel
theorem dL_would_402 : decode cL_would 402 = .ok (.ifCond .eq 153, 3) := by decide +kernel
theorem dL_would_405 : decode cL_would 405 = .ok (.iload 9, 2) := by decide +kernel
theorem dL_would_407 : decode cL_would 407 = .ok (.ifCond .lt 9, 3) := by decide +kernel
theorem dL_would_410 : decode cL_would 410 = .ok (.iload 9, 2) := by decide +kernel
theorem dL_would_412 : decode cL_would 412 = .ok (.iconst 3, 1) := by decide +kernel
theorem dL_would_413 : decode cL_would 413 = .ok (.if_icmp .le 12, 3) := by decide +kernel
theorem dL_would_416 : decode cL_would 416 = .ok (.iload 10, 2) := by decide +kernel
theorem dL_would_418 : decode cL_would 418 = .ok (.iconst (-1), 1) := by decide +kernel
theorem dL_would_419 : decode cL_would 419 = .ok (.if_icmp .ne 136, 3) := by decide +kernel
theorem dL_would_422 : decode cL_would 422 = .ok (.goto 29, 3) := by decide +kernel
theorem dL_would_425 : decode cL_would 425 = .ok (.iload 10, 2) := by decide +kernel
theorem dL_would_427 : decode cL_would 427 = .ok (.ifCond .lt 128, 3) := by decide +kernel
theorem dL_would_430 : decode cL_would 430 = .ok (.iload 10, 2) := by decide +kernel
theorem dL_would_432 : decode cL_would 432 = .ok (.aload_n 0, 1) := by decide +kernel
theorem dL_would_433 : decode cL_would 433 = .ok (.iconst 5, 1) := by decide +kernel
theorem dL_would_434 : decode cL_would 434 = .ok (.invokevirtual 13, 3) := by decide +kernel
theorem dL_would_437 : decode cL_would 437 = .ok (.if_icmp .gt 118, 3) := by decide +kernel
theorem dL_would_440 : decode cL_would 440 = .ok (.aload_n 0, 1) := by decide +kernel
theorem dL_would_441 : decode cL_would 441 = .ok (.iload 11, 2) := by decide +kernel
theorem dL_would_443 : decode cL_would 443 = .ok (.invokevirtual 55, 3) := by decide +kernel
theorem dL_would_446 : decode cL_would 446 = .ok (.iload 10, 2) := by decide +kernel
theorem dL_would_448 : decode cL_would 448 = .ok (.if_icmp .gt 107, 3) := by decide +kernel
theorem dL_would_451 : decode cL_would 451 = .ok (.iload 11, 2) := by decide +kernel
theorem dL_would_453 : decode cL_would 453 = .ok (.ifCond .lt 102, 3) := by decide +kernel
