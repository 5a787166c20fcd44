theorem dL_hangs_704 : decode cL_hangs 704 = .ok (.iconst 1, 1) := by decide +kernel
theorem dL_hangs_705 : decode cL_hangs 705 = .ok (.goto 4, 3) := by decide +kernel
theorem dL_hangs_708 : decode cL_hangs 708 = .ok (.iconst 0, 1) := by decide +kernel
theorem dL_hangs_709 : decode cL_hangs 709 = .ok (.iload 18, 2) := by decide +kernel
theorem dL_hangs_711 : decode cL_hangs 711 = .ok (.ifCond .lt 7, 3) := by decide +kernel
theorem dL_hangs_714 : decode cL_hangs 714 = .ok (.iconst 1, 1) := by decide +kernel
theorem dL_hangs_715 : decode cL_hangs 715 = .ok (.goto 4, 3) := by decide +kernel
theorem dL_hangs_718 : decode cL_hangs 718 = .ok (.iconst 0, 1) := by decide +kernel
theorem dL_hangs_719 : decode cL_hangs 719 = .ok (.if_icmp .ne 112, 3) := by decide +kernel
theorem dL_hangs_722 : decode cL_hangs 722 = .ok (.iload 17, 2) := by decide +kernel
theorem dL_hangs_724 : decode cL_hangs 724 = .ok (.iconst 1, 1) := by decide +kernel
theorem dL_hangs_725 : decode cL_hangs 725 = .ok (.if_icmp .ne 7, 3) := by decide +kernel
theorem dL_hangs_728 : decode cL_hangs 728 = .ok (.iconst 1, 1) := by decide +kernel
theorem dL_hangs_729 : decode cL_hangs 729 = .ok (.goto 4, 3) := by decide +kernel
theorem dL_hangs_732 : decode cL_hangs 732 = .ok (.iconst 0, 1) := by decide +kernel
theorem dL_hangs_733 : decode cL_hangs 733 = .ok (.aload_n 0, 1) := by decide +kernel
theorem dL_hangs_734 : decode cL_hangs 734 = .ok (.iload 16, 2) := by decide +kernel
theorem dL_hangs_736 : decode cL_hangs 736 = .ok (.iconst 5, 1) := by decide +kernel
theorem dL_hangs_737 : decode cL_hangs 737 = .ok (.invokevirtual 58, 3) := by decide +kernel
theorem dL_hangs_740 : decode cL_hangs 740 = .ok (.ifCond .ne 13, 3) := by decide +kernel
theorem dL_hangs_743 : decode cL_hangs 743 = .ok (.iload 17, 2) := by decide +kernel
theorem dL_hangs_745 : decode cL_hangs 745 = .ok (.iconst 2, 1) := by decide +kernel
theorem dL_hangs_746 : decode cL_hangs 746 = .ok (.if_icmp .ge 7, 3) := by decide +kernel
theorem dL_hangs_749 : decode cL_hangs 749 = .ok (.iconst 1, 1) := by decide +kernel
theorem dL_hangs_750 : decode cL_hangs 750 = .ok (.goto 4, 3) := by decide +kernel
theorem dL_hangs_753 : decode cL_hangs 753 = .ok (.iconst 0, 1) := by decide +kernel
theorem dL_hangs_754 : decode cL_hangs 754 = .ok (.if_icmp .ne 77, 3) := by decide +kernel
theorem dL_hangs_757 : decode cL_hangs 757 = .ok (.iload 17, 2) := by decide +kernel
theorem dL_hangs_759 : decode cL_hangs 759 = .ok (.iconst 1, 1) := by decide +kernel
theorem dL_hangs_760 : decode cL_hangs 760 = .ok (.if_icmp .ne 15, 3) := by decide +kernel
theorem dL_hangs_763 : decode cL_hangs 763 = .ok (.iload 19, 2) := by decide +kernel
theorem dL_hangs_765 : decode cL_hangs 765 = .ok (.aload_n 0, 1) := by decide +kernel
theorem dL_hangs_766 : decode cL_hangs 766 = .ok (.iload 16, 2) := by decide +kernel
theorem dL_hangs_768 : decode cL_hangs 768 = .ok (.iconst 2, 1) := by decide +kernel
theorem dL_hangs_769 : decode cL_hangs 769 = .ok (.invokevirtual 58, 3) := by decide +kernel
theorem dL_hangs_772 : decode cL_hangs 772 = .ok (.if_icmp .ne 59, 3) := by decide +kernel
theorem dL_hangs_775 : decode cL_hangs 775 = .ok (.aload_n 0, 1) := by decide +kernel
theorem dL_hangs_776 : decode cL_hangs 776 = .ok (.iload 16, 2) := by decide +kernel
theorem dL_hangs_778 : decode cL_hangs 778 = .ok (.iconst 4, 1) := by decide +kernel
theorem dL_hangs_779 : decode cL_hangs 779 = .ok (.invokevirtual 58, 3) := by decide +kernel
theorem dL_hangs_782 : decode cL_hangs 782 = .ok (.ifCond .lt 49, 3) := by decide +kernel
theorem dL_hangs_785 : decode cL_hangs 785 = .ok (.aload_n 0, 1) := by decide +kernel
theorem dL_hangs_786 : decode cL_hangs 786 = .ok (.iload 16, 2) := by decide +kernel
theorem dL_hangs_788 : decode cL_hangs 788 = .ok (.iconst 4, 1) := by decide +kernel
theorem dL_hangs_789 : decode cL_hangs 789 = .ok (.invokevirtual 58, 3) := by decide +kernel
theorem dL_hangs_792 : decode cL_hangs 792 = .ok (.aload_n 0, 1) := by decide +kernel
theorem dL_hangs_793 : decode cL_hangs 793 = .ok (.iconst 0, 1) := by decide +kernel
theorem dL_hangs_794 : decode cL_hangs 794 = .ok (.invokevirtual 80, 3) := by decide +kernel
theorem dL_hangs_797 : decode cL_hangs 797 = .ok (.if_icmp .gt 34, 3) := by decide +kernel
theorem dL_hangs_800 : decode cL_hangs 800 = .ok (.aload_n 0, 1) := by decide +kernel
theorem dL_hangs_801 : decode cL_hangs 801 = .ok (.iload 16, 2) := by decide +kernel
theorem dL_hangs_803 : decode cL_hangs 803 = .ok (.iconst 0, 1) := by decide +kernel
theorem dL_hangs_804 : decode cL_hangs 804 = .ok (.invokevirtual 58, 3) := by decide +kernel
theorem dL_hangs_807 : decode cL_hangs 807 = .ok (.ifCond .le 24, 3) := by decide +kernel
theorem dL_hangs_810 : decode cL_hangs 810 = .ok (.iload 17, 2) := by decide +kernel
theorem dL_hangs_812 : decode cL_hangs 812 = .ok (.ifCond .ne 15, 3) := by decide +kernel
theorem dL_hangs_815 : decode cL_hangs 815 = .ok (.aload_n 0, 1) := by decide +kernel
theorem dL_hangs_816 : decode cL_hangs 816 = .ok (.iload 19, 2) := by decide +kernel
theorem dL_hangs_818 : decode cL_hangs 818 = .ok (.iconst 1, 1) := by decide +kernel
theorem dL_hangs_819 : decode cL_hangs 819 = .ok (.invokevirtual 55, 3) := by decide +kernel
theorem dL_hangs_822 : decode cL_hangs 822 = .ok (.iload 16, 2) := by decide +kernel
theorem dL_hangs_824 : decode cL_hangs 824 = .ok (.if_icmp .ne 7, 3) := by decide +kernel
theorem dL_hangs_827 : decode cL_hangs 827 = .ok (.iconst 1, 1) := by decide +kernel
theorem dL_hangs_828 : decode cL_hangs 828 = .ok (.goto 4, 3) := by decide +kernel
theorem dL_hangs_831 : decode cL_hangs 831 = .ok (.iconst 0, 1) := by decide +kernel
theorem dL_hangs_832 : decode cL_hangs 832 = .ok (.istore 6, 2) := by decide +kernel
theorem dL_hangs_834 : decode cL_hangs 834 = .ok (.iload 14, 2) := by decide +kernel
theorem dL_hangs_836 : decode cL_hangs 836 = .ok (.iload 17, 2) := by decide +kernel
theorem dL_hangs_838 : decode cL_hangs 838 = .ok (.ifCond .ne 7, 3) := by decide +kernel
theorem dL_hangs_841 : decode cL_hangs 841 = .ok (.iconst 1, 1) := by decide +kernel
theorem dL_hangs_842 : decode cL_hangs 842 = .ok (.goto 4, 3) := by decide +kernel
theorem dL_hangs_845 : decode cL_hangs 845 = .ok (.iconst 0, 1) := by decide +kernel
theorem dL_hangs_846 : decode cL_hangs 846 = .ok (.iadd, 1) := by decide +kernel
theorem dL_hangs_847 : decode cL_hangs 847 = .ok (.istore 14, 2) := by decide +kernel
theorem dL_hangs_849 : decode cL_hangs 849 = .ok (.iload 15, 2) := by decide +kernel
theorem dL_hangs_851 : decode cL_hangs 851 = .ok (.iload 17, 2) := by decide +kernel
theorem dL_hangs_853 : decode cL_hangs 853 = .ok (.ifCond .ne 10, 3) := by decide +kernel
theorem dL_hangs_856 : decode cL_hangs 856 = .ok (.iconst 1, 1) := by decide +kernel
theorem dL_hangs_857 : decode cL_hangs 857 = .ok (.iload 18, 2) := by decide +kernel
theorem dL_hangs_859 : decode cL_hangs 859 = .ok (.ishl, 1) := by decide +kernel
theorem dL_hangs_860 : decode cL_hangs 860 = .ok (.goto 4, 3) := by decide +kernel
theorem dL_hangs_863 : decode cL_hangs 863 = .ok (.iconst 0, 1) := by decide +kernel
theorem dL_hangs_864 : decode cL_hangs 864 = .ok (.ior, 1) := by decide +kernel
theorem dL_hangs_865 : decode cL_hangs 865 = .ok (.istore 15, 2) := by decide +kernel
theorem dL_hangs_867 : decode cL_hangs 867 = .ok (.iload 13, 2) := by decide +kernel
theorem dL_hangs_869 : decode cL_hangs 869 = .ok (.iload 17, 2) := by decide +kernel
theorem dL_hangs_871 : decode cL_hangs 871 = .ok (.iconst 1, 1) := by decide +kernel
theorem dL_hangs_872 : decode cL_hangs 872 = .ok (.if_icmp .ne 13, 3) := by decide +kernel
theorem dL_hangs_875 : decode cL_hangs 875 = .ok (.aload_n 0, 1) := by decide +kernel
theorem dL_hangs_876 : decode cL_hangs 876 = .ok (.iload 16, 2) := by decide +kernel
theorem dL_hangs_878 : decode cL_hangs 878 = .ok (.iconst 0, 1) := by decide +kernel
theorem dL_hangs_879 : decode cL_hangs 879 = .ok (.invokevirtual 58, 3) := by decide +kernel
theorem dL_hangs_882 : decode cL_hangs 882 = .ok (.goto 4, 3) := by decide +kernel
theorem dL_hangs_885 : decode cL_hangs 885 = .ok (.iconst 0, 1) := by decide +kernel
theorem dL_hangs_886 : decode cL_hangs 886 = .ok (.iadd, 1) := by decide +kernel
theorem dL_hangs_887 : decode cL_hangs 887 = .ok (.istore 13, 2) := by decide +kernel
theorem dL_hangs_889 : decode cL_hangs 889 = .ok (.iload 11, 2) := by decide +kernel
theorem dL_hangs_891 : decode cL_hangs 891 = .ok (.iload 17, 2) := by decide +kernel
theorem dL_hangs_893 : decode cL_hangs 893 = .ok (.iconst 2, 1) := by decide +kernel
theorem dL_hangs_894 : decode cL_hangs 894 = .ok (.if_icmp .ne 7, 3) := by decide +kernel
theorem dL_hangs_897 : decode cL_hangs 897 = .ok (.iconst 1, 1) := by decide +kernel
theorem dL_hangs_898 : decode cL_hangs 898 = .ok (.goto 4, 3) := by decide +kernel
theorem dL_hangs_901 : decode cL_hangs 901 = .ok (.iconst 0, 1) := by decide +kernel
theorem dL_hangs_902 : decode cL_hangs 902 = .ok (.iadd, 1) := by decide +kernel
theorem dL_hangs_903 : decode cL_hangs 903 = .ok (.istore 11, 2) := by decide +kernel
theorem dL_hangs_905 : decode cL_hangs 905 = .ok (.iload 12, 2) := by decide +kernel
theorem dL_hangs_907 : decode cL_hangs 907 = .ok (.iload 17, 2) := by decide +kernel
theorem dL_hangs_909 : decode cL_hangs 909 = .ok (.iconst 2, 1) := by decide +kernel
theorem dL_hangs_910 : decode cL_hangs 910 = .ok (.if_icmp .ne 13, 3) := by decide +kernel
theorem dL_hangs_913 : decode cL_hangs 913 = .ok (.aload_n 0, 1) := by decide +kernel
theorem dL_hangs_914 : decode cL_hangs 914 = .ok (.iload 16, 2) := by decide +kernel
theorem dL_hangs_916 : decode cL_hangs 916 = .ok (.iconst 0, 1) := by decide +kernel
theorem dL_hangs_917 : decode cL_hangs 917 = .ok (.invokevirtual 58, 3) := by decide +kernel
theorem dL_hangs_920 : decode cL_hangs 920 = .ok (.goto 4, 3) := by decide +kernel
theorem dL_hangs_923 : decode cL_hangs 923 = .ok (.iconst 0, 1) := by decide +kernel
theorem dL_hangs_924 : decode cL_hangs 924 = .ok (.iadd, 1) := by decide +kernel
theorem dL_hangs_925 : decode cL_hangs 925 = .ok (.istore 12, 2) := by decide +kernel
theorem dL_hangs_927 : decode cL_hangs 927 = .ok (.iinc 16 1, 3) := by decide +kernel
theorem dL_hangs_930 : decode cL_hangs 930 = .ok (.goto (-289), 3) := by decide +kernel
theorem dL_hangs_933 : decode cL_hangs 933 = .ok (.aload_n 0, 1) := by decide +kernel
theorem dL_hangs_934 : decode cL_hangs 934 = .ok (.bipush 12, 2) := by decide +kernel
theorem dL_hangs_936 : decode cL_hangs 936 = .ok (.invokevirtual 83, 3) := by decide +kernel
theorem dL_hangs_939 : decode cL_hangs 939 = .ok (.istore 16, 2) := by decide +kernel
theorem dL_hangs_941 : decode cL_hangs 941 = .ok (.iload 6, 2) := by decide +kernel
theorem dL_hangs_943 : decode cL_hangs 943 = .ok (.ifCond .eq 201, 3) := by decide +kernel
theorem dL_hangs_946 : decode cL_hangs 946 = .ok (.iload_n 1, 1) := by decide +kernel
theorem dL_hangs_947 : decode cL_hangs 947 = .ok (.aload_n 0, 1) := by decide +kernel
theorem dL_hangs_948 : decode cL_hangs 948 = .ok (.iconst 1, 1) := by decide +kernel
theorem dL_hangs_949 : decode cL_hangs 949 = .ok (.invokevirtual 80, 3) := by decide +kernel
theorem dL_hangs_952 : decode cL_hangs 952 = .ok (.if_icmp .ne 192, 3) := by decide +kernel
theorem dL_hangs_955 : decode cL_hangs 955 = .ok (.iload_n 2, 1) := by decide +kernel
theorem dL_hangs_956 : decode cL_hangs 956 = .ok (.aload_n 0, 1) := by decide +kernel
theorem dL_hangs_957 : decode cL_hangs 957 = .ok (.bipush 6, 2) := by decide +kernel
theorem dL_hangs_959 : decode cL_hangs 959 = .ok (.invokevirtual 80, 3) := by decide +kernel
theorem dL_hangs_962 : decode cL_hangs 962 = .ok (.if_icmp .ne 182, 3) := by decide +kernel
theorem dL_hangs_965 : decode cL_hangs 965 = .ok (.iload_n 3, 1) := by decide +kernel
theorem dL_hangs_966 : decode cL_hangs 966 = .ok (.aload_n 0, 1) := by decide +kernel
theorem dL_hangs_967 : decode cL_hangs 967 = .ok (.bipush 7, 2) := by decide +kernel
theorem dL_hangs_969 : decode cL_hangs 969 = .ok (.invokevirtual 80, 3) := by decide +kernel
theorem dL_hangs_972 : decode cL_hangs 972 = .ok (.if_icmp .ne 172, 3) := by decide +kernel
theorem dL_hangs_975 : decode cL_hangs 975 = .ok (.iload 4, 2) := by decide +kernel
theorem dL_hangs_977 : decode cL_hangs 977 = .ok (.iload 14, 2) := by decide +kernel
theorem dL_hangs_979 : decode cL_hangs 979 = .ok (.if_icmp .ne 165, 3) := by decide +kernel
theorem dL_hangs_982 : decode cL_hangs 982 = .ok (.iload 14, 2) := by decide +kernel
theorem dL_hangs_984 : decode cL_hangs 984 = .ok (.aload_n 0, 1) := by decide +kernel
theorem dL_hangs_985 : decode cL_hangs 985 = .ok (.iconst 3, 1) := by decide +kernel
theorem dL_hangs_986 : decode cL_hangs 986 = .ok (.invokevirtual 80, 3) := by decide +kernel
theorem dL_hangs_989 : decode cL_hangs 989 = .ok (.if_icmp .ne 155, 3) := by decide +kernel
theorem dL_hangs_992 : decode cL_hangs 992 = .ok (.iload 15, 2) := by decide +kernel
theorem dL_hangs_994 : decode cL_hangs 994 = .ok (.iconst 1, 1) := by decide +kernel
theorem dL_hangs_995 : decode cL_hangs 995 = .ok (.iload 14, 2) := by decide +kernel
theorem dL_hangs_997 : decode cL_hangs 997 = .ok (.ishl, 1) := by decide +kernel
theorem dL_hangs_998 : decode cL_hangs 998 = .ok (.iconst 1, 1) := by decide +kernel
theorem dL_hangs_999 : decode cL_hangs 999 = .ok (.isub, 1) := by decide +kernel
theorem dL_hangs_1000 : decode cL_hangs 1000 = .ok (.if_icmp .ne 144, 3) := by decide +kernel
theorem dL_hangs_1003 : decode cL_hangs 1003 = .ok (.iload 13, 2) := by decide +kernel
theorem dL_hangs_1005 : decode cL_hangs 1005 = .ok (.aload_n 0, 1) := by decide +kernel
theorem dL_hangs_1006 : decode cL_hangs 1006 = .ok (.bipush 10, 2) := by decide +kernel
theorem dL_hangs_1008 : decode cL_hangs 1008 = .ok (.invokevirtual 80, 3) := by decide +kernel
theorem dL_hangs_1011 : decode cL_hangs 1011 = .ok (.if_icmp .ne 133, 3) := by decide +kernel
theorem dL_hangs_1014 : decode cL_hangs 1014 = .ok (.iload 11, 2) := by decide +kernel
theorem dL_hangs_1016 : decode cL_hangs 1016 = .ok (.aload_n 0, 1) := by decide +kernel
theorem dL_hangs_1017 : decode cL_hangs 1017 = .ok (.iconst 5, 1) := by decide +kernel
theorem dL_hangs_1018 : decode cL_hangs 1018 = .ok (.invokevirtual 80, 3) := by decide +kernel
theorem dL_hangs_1021 : decode cL_hangs 1021 = .ok (.if_icmp .ne 123, 3) := by decide +kernel
theorem dL_hangs_1024 : decode cL_hangs 1024 = .ok (.iload 11, 2) := by decide +kernel
theorem dL_hangs_1026 : decode cL_hangs 1026 = .ok (.iload 9, 2) := by decide +kernel
theorem dL_hangs_1028 : decode cL_hangs 1028 = .ok (.if_icmp .ne 116, 3) := by decide +kernel
theorem dL_hangs_1031 : decode cL_hangs 1031 = .ok (.aload_n 0, 1) := by decide +kernel
theorem dL_hangs_1032 : decode cL_hangs 1032 = .ok (.iconst 3, 1) := by decide +kernel
theorem dL_hangs_1033 : decode cL_hangs 1033 = .ok (.invokevirtual 80, 3) := by decide +kernel
theorem dL_hangs_1036 : decode cL_hangs 1036 = .ok (.aload_n 0, 1) := by decide +kernel
theorem dL_hangs_1037 : decode cL_hangs 1037 = .ok (.iconst 4, 1) := by decide +kernel
theorem dL_hangs_1038 : decode cL_hangs 1038 = .ok (.invokevirtual 80, 3) := by decide +kernel
theorem dL_hangs_1041 : decode cL_hangs 1041 = .ok (.iadd, 1) := by decide +kernel
theorem dL_hangs_1042 : decode cL_hangs 1042 = .ok (.aload_n 0, 1) := by decide +kernel
theorem dL_hangs_1043 : decode cL_hangs 1043 = .ok (.iconst 5, 1) := by decide +kernel
theorem dL_hangs_1044 : decode cL_hangs 1044 = .ok (.invokevirtual 80, 3) := by decide +kernel
theorem dL_hangs_1047 : decode cL_hangs 1047 = .ok (.iadd, 1) := by decide +kernel
theorem dL_hangs_1048 : decode cL_hangs 1048 = .ok (.iload 10, 2) := by decide +kernel
theorem dL_hangs_1050 : decode cL_hangs 1050 = .ok (.if_icmp .ne 94, 3) := by decide +kernel
theorem dL_hangs_1053 : decode cL_hangs 1053 = .ok (.iload 7, 2) := by decide +kernel
theorem dL_hangs_1055 : decode cL_hangs 1055 = .ok (.aload_n 0, 1) := by decide +kernel
theorem dL_hangs_1056 : decode cL_hangs 1056 = .ok (.bipush 8, 2) := by decide +kernel
theorem dL_hangs_1058 : decode cL_hangs 1058 = .ok (.invokevirtual 80, 3) := by decide +kernel
theorem dL_hangs_1061 : decode cL_hangs 1061 = .ok (.if_icmp .ne 83, 3) := by decide +kernel
theorem dL_hangs_1064 : decode cL_hangs 1064 = .ok (.iload 8, 2) := by decide +kernel
theorem dL_hangs_1066 : decode cL_hangs 1066 = .ok (.aload_n 0, 1) := by decide +kernel
theorem dL_hangs_1067 : decode cL_hangs 1067 = .ok (.bipush 9, 2) := by decide +kernel
theorem dL_hangs_1069 : decode cL_hangs 1069 = .ok (.invokevirtual 80, 3) := by decide +kernel
theorem dL_hangs_1072 : decode cL_hangs 1072 = .ok (.if_icmp .ne 72, 3) := by decide +kernel
theorem dL_hangs_1075 : decode cL_hangs 1075 = .ok (.iload 7, 2) := by decide +kernel
theorem dL_hangs_1077 : decode cL_hangs 1077 = .ok (.iload 8, 2) := by decide +kernel
theorem dL_hangs_1079 : decode cL_hangs 1079 = .ok (.iadd, 1) := by decide +kernel
theorem dL_hangs_1080 : decode cL_hangs 1080 = .ok (.iload 12, 2) := by decide +kernel
theorem dL_hangs_1082 : decode cL_hangs 1082 = .ok (.if_icmp .ne 62, 3) := by decide +kernel
theorem dL_hangs_1085 : decode cL_hangs 1085 = .ok (.iload 16, 2) := by decide +kernel
theorem dL_hangs_1087 : decode cL_hangs 1087 = .ok (.ifCond .lt 57, 3) := by decide +kernel
theorem dL_hangs_1090 : decode cL_hangs 1090 = .ok (.iload 16, 2) := by decide +kernel
theorem dL_hangs_1092 : decode cL_hangs 1092 = .ok (.iconst 1, 1) := by decide +kernel
theorem dL_hangs_1093 : decode cL_hangs 1093 = .ok (.iload 10, 2) := by decide +kernel
theorem dL_hangs_1095 : decode cL_hangs 1095 = .ok (.ishl, 1) := by decide +kernel
theorem dL_hangs_1096 : decode cL_hangs 1096 = .ok (.if_icmp .ge 48, 3) := by decide +kernel
theorem dL_hangs_1099 : decode cL_hangs 1099 = .ok (.aload_n 0, 1) := by decide +kernel
theorem dL_hangs_1100 : decode cL_hangs 1100 = .ok (.iconst 3, 1) := by decide +kernel
theorem dL_hangs_1101 : decode cL_hangs 1101 = .ok (.invokevirtual 83, 3) := by decide +kernel
theorem dL_hangs_1104 : decode cL_hangs 1104 = .ok (.iload 16, 2) := by decide +kernel
theorem dL_hangs_1106 : decode cL_hangs 1106 = .ok (.iconst (-1), 1) := by decide +kernel
theorem dL_hangs_1107 : decode cL_hangs 1107 = .ok (.ixor, 1) := by decide +kernel
theorem dL_hangs_1108 : decode cL_hangs 1108 = .ok (.iand, 1) := by decide +kernel
theorem dL_hangs_1109 : decode cL_hangs 1109 = .ok (.ifCond .ne 35, 3) := by decide +kernel
theorem dL_hangs_1112 : decode cL_hangs 1112 = .ok (.iload_n 1, 1) := by decide +kernel
theorem dL_hangs_1113 : decode cL_hangs 1113 = .ok (.ifCond .gt 8, 3) := by decide +kernel
theorem dL_hangs_1116 : decode cL_hangs 1116 = .ok (.iload 16, 2) := by decide +kernel
theorem dL_hangs_1118 : decode cL_hangs 1118 = .ok (.ifCond .ne 26, 3) := by decide +kernel
theorem dL_hangs_1121 : decode cL_hangs 1121 = .ok (.aload_n 0, 1) := by decide +kernel
theorem dL_hangs_1122 : decode cL_hangs 1122 = .ok (.bipush 11, 2) := by decide +kernel
theorem dL_hangs_1124 : decode cL_hangs 1124 = .ok (.invokevirtual 80, 3) := by decide +kernel
theorem dL_hangs_1127 : decode cL_hangs 1127 = .ok (.ifCond .lt 17, 3) := by decide +kernel
theorem dL_hangs_1130 : decode cL_hangs 1130 = .ok (.aload_n 0, 1) := by decide +kernel
theorem dL_hangs_1131 : decode cL_hangs 1131 = .ok (.bipush 11, 2) := by decide +kernel
theorem dL_hangs_1133 : decode cL_hangs 1133 = .ok (.invokevirtual 80, 3) := by decide +kernel
theorem dL_hangs_1136 : decode cL_hangs 1136 = .ok (.iconst 5, 1) := by decide +kernel
theorem dL_hangs_1137 : decode cL_hangs 1137 = .ok (.if_icmp .ge 7, 3) := by decide +kernel
theorem dL_hangs_1140 : decode cL_hangs 1140 = .ok (.iconst 1, 1) := by decide +kernel
theorem dL_hangs_1141 : decode cL_hangs 1141 = .ok (.goto 4, 3) := by decide +kernel
theorem dL_hangs_1144 : decode cL_hangs 1144 = .ok (.iconst 0, 1) := by decide +kernel
theorem dL_hangs_1145 : decode cL_hangs 1145 = .ok (.ireturn, 1) := by decide +kernel
theorem dL_same_0 : decode cL_same 0 = .ok (.iconst 1, 1) := by decide +kernel
theorem dL_same_1 : decode cL_same 1 = .ok (.istore_n 2, 1) := by decide +kernel
theorem dL_same_2 : decode cL_same 2 = .ok (.iconst 0, 1) := by decide +kernel
theorem dL_same_3 : decode cL_same 3 = .ok (.istore_n 3, 1) := by decide +kernel
theorem dL_same_4 : decode cL_same 4 = .ok (.iload_n 3, 1) := by decide +kernel
theorem dL_same_5 : decode cL_same 5 = .ok (.bipush 14, 2) := by decide +kernel
theorem dL_same_7 : decode cL_same 7 = .ok (.if_icmp .ge 38, 3) := by decide +kernel
theorem dL_same_10 : decode cL_same 10 = .ok (.iload_n 2, 1) := by decide +kernel
theorem dL_same_11 : decode cL_same 11 = .ok (.ifCond .eq 34, 3) := by decide +kernel
theorem dL_same_14 : decode cL_same 14 = .ok (.iload_n 3, 1) := by decide +kernel
theorem dL_same_15 : decode cL_same 15 = .ok (.bipush 12, 2) := by decide +kernel
theorem dL_same_17 : decode cL_same 17 = .ok (.if_icmp .eq 16, 3) := by decide +kernel
theorem dL_same_20 : decode cL_same 20 = .ok (.aload_n 0, 1) := by decide +kernel
theorem dL_same_21 : decode cL_same 21 = .ok (.iload_n 3, 1) := by decide +kernel
theorem dL_same_22 : decode cL_same 22 = .ok (.invokevirtual 80, 3) := by decide +kernel
theorem dL_same_25 : decode cL_same 25 = .ok (.aload_n 1, 1) := by decide +kernel
theorem dL_same_26 : decode cL_same 26 = .ok (.iload_n 3, 1) := by decide +kernel
theorem dL_same_27 : decode cL_same 27 = .ok (.invokevirtual 80, 3) := by decide +kernel
theorem dL_same_30 : decode cL_same 30 = .ok (.if_icmp .ne 7, 3) := by decide +kernel
theorem dL_same_33 : decode cL_same 33 = .ok (.iconst 1, 1) := by decide +kernel
theorem dL_same_34 : decode cL_same 34 = .ok (.goto 4, 3) := by decide +kernel
theorem dL_same_37 : decode cL_same 37 = .ok (.iconst 0, 1) := by decide +kernel
theorem dL_same_38 : decode cL_same 38 = .ok (.istore_n 2, 1) := by decide +kernel
theorem dL_same_39 : decode cL_same 39 = .ok (.iinc 3 1, 3) := by decide +kernel
theorem dL_same_42 : decode cL_same 42 = .ok (.goto (-38), 3) := by decide +kernel
theorem dL_same_45 : decode cL_same 45 = .ok (.iconst 0, 1) := by decide +kernel
theorem dL_same_46 : decode cL_same 46 = .ok (.istore_n 3, 1) := by decide +kernel
theorem dL_same_47 : decode cL_same 47 = .ok (.iload_n 3, 1) := by decide +kernel
theorem dL_same_48 : decode cL_same 48 = .ok (.bipush 8, 2) := by decide +kernel
theorem dL_same_50 : decode cL_same 50 = .ok (.if_icmp .ge 79, 3) := by decide +kernel
theorem dL_same_53 : decode cL_same 53 = .ok (.iload_n 2, 1) := by decide +kernel
theorem dL_same_54 : decode cL_same 54 = .ok (.ifCond .eq 75, 3) := by decide +kernel
theorem dL_same_57 : decode cL_same 57 = .ok (.aload_n 0, 1) := by decide +kernel
theorem dL_same_58 : decode cL_same 58 = .ok (.iload_n 3, 1) := by decide +kernel
theorem dL_same_59 : decode cL_same 59 = .ok (.iconst 0, 1) := by decide +kernel
theorem dL_same_60 : decode cL_same 60 = .ok (.invokevirtual 58, 3) := by decide +kernel
theorem dL_same_63 : decode cL_same 63 = .ok (.aload_n 1, 1) := by decide +kernel
theorem dL_same_64 : decode cL_same 64 = .ok (.iload_n 3, 1) := by decide +kernel
theorem dL_same_65 : decode cL_same 65 = .ok (.iconst 0, 1) := by decide +kernel
theorem dL_same_66 : decode cL_same 66 = .ok (.invokevirtual 58, 3) := by decide +kernel
theorem dL_same_69 : decode cL_same 69 = .ok (.if_icmp .ne 52, 3) := by decide +kernel
theorem dL_same_72 : decode cL_same 72 = .ok (.aload_n 0, 1) := by decide +kernel
theorem dL_same_73 : decode cL_same 73 = .ok (.iload_n 3, 1) := by decide +kernel
theorem dL_same_74 : decode cL_same 74 = .ok (.iconst 1, 1) := by decide +kernel
theorem dL_same_75 : decode cL_same 75 = .ok (.invokevirtual 58, 3) := by decide +kernel
theorem dL_same_78 : decode cL_same 78 = .ok (.aload_n 1, 1) := by decide +kernel
theorem dL_same_79 : decode cL_same 79 = .ok (.iload_n 3, 1) := by decide +kernel
theorem dL_same_80 : decode cL_same 80 = .ok (.iconst 1, 1) := by decide +kernel
theorem dL_same_81 : decode cL_same 81 = .ok (.invokevirtual 58, 3) := by decide +kernel
theorem dL_same_84 : decode cL_same 84 = .ok (.if_icmp .ne 37, 3) := by decide +kernel
theorem dL_same_87 : decode cL_same 87 = .ok (.aload_n 0, 1) := by decide +kernel
theorem dL_same_88 : decode cL_same 88 = .ok (.iload_n 3, 1) := by decide +kernel
theorem dL_same_89 : decode cL_same 89 = .ok (.iconst 3, 1) := by decide +kernel
theorem dL_same_90 : decode cL_same 90 = .ok (.invokevirtual 58, 3) := by decide +kernel
theorem dL_same_93 : decode cL_same 93 = .ok (.aload_n 1, 1) := by decide +kernel
theorem dL_same_94 : decode cL_same 94 = .ok (.iload_n 3, 1) := by decide +kernel
theorem dL_same_95 : decode cL_same 95 = .ok (.iconst 3, 1) := by decide +kernel
theorem dL_same_96 : decode cL_same 96 = .ok (.invokevirtual 58, 3) := by decide +kernel
theorem dL_same_99 : decode cL_same 99 = .ok (.if_icmp .ne 22, 3) := by decide +kernel
theorem dL_same_102 : decode cL_same 102 = .ok (.aload_n 0, 1) := by decide +kernel
theorem dL_same_103 : decode cL_same 103 = .ok (.iload_n 3, 1) := by decide +kernel
theorem dL_same_104 : decode cL_same 104 = .ok (.iconst 4, 1) := by decide +kernel
theorem dL_same_105 : decode cL_same 105 = .ok (.invokevirtual 58, 3) := by decide +kernel
theorem dL_same_108 : decode cL_same 108 = .ok (.aload_n 1, 1) := by decide +kernel
theorem dL_same_109 : decode cL_same 109 = .ok (.iload_n 3, 1) := by decide +kernel
theorem dL_same_110 : decode cL_same 110 = .ok (.iconst 4, 1) := by decide +kernel
theorem dL_same_111 : decode cL_same 111 = .ok (.invokevirtual 58, 3) := by decide +kernel
theorem dL_same_114 : decode cL_same 114 = .ok (.if_icmp .ne 7, 3) := by decide +kernel
theorem dL_same_117 : decode cL_same 117 = .ok (.iconst 1, 1) := by decide +kernel
theorem dL_same_118 : decode cL_same 118 = .ok (.goto 4, 3) := by decide +kernel
theorem dL_same_121 : decode cL_same 121 = .ok (.iconst 0, 1) := by decide +kernel
theorem dL_same_122 : decode cL_same 122 = .ok (.istore_n 2, 1) := by decide +kernel
theorem dL_same_123 : decode cL_same 123 = .ok (.iinc 3 1, 3) := by decide +kernel
theorem dL_same_126 : decode cL_same 126 = .ok (.goto (-79), 3) := by decide +kernel
theorem dL_same_129 : decode cL_same 129 = .ok (.iconst 0, 1) := by decide +kernel
theorem dL_same_130 : decode cL_same 130 = .ok (.istore_n 3, 1) := by decide +kernel
theorem dL_same_131 : decode cL_same 131 = .ok (.iload_n 3, 1) := by decide +kernel
theorem dL_same_132 : decode cL_same 132 = .ok (.iconst 4, 1) := by decide +kernel
theorem dL_same_133 : decode cL_same 133 = .ok (.if_icmp .ge 72, 3) := by decide +kernel
theorem dL_same_136 : decode cL_same 136 = .ok (.iload_n 2, 1) := by decide +kernel
theorem dL_same_137 : decode cL_same 137 = .ok (.ifCond .eq 68, 3) := by decide +kernel
theorem dL_same_140 : decode cL_same 140 = .ok (.iconst 0, 1) := by decide +kernel
theorem dL_same_141 : decode cL_same 141 = .ok (.istore 4, 2) := by decide +kernel
theorem dL_same_143 : decode cL_same 143 = .ok (.iload 4, 2) := by decide +kernel
theorem dL_same_145 : decode cL_same 145 = .ok (.iconst 5, 1) := by decide +kernel
theorem dL_same_146 : decode cL_same 146 = .ok (.if_icmp .ge 53, 3) := by decide +kernel
theorem dL_same_149 : decode cL_same 149 = .ok (.iload_n 2, 1) := by decide +kernel
theorem dL_same_150 : decode cL_same 150 = .ok (.ifCond .eq 49, 3) := by decide +kernel
theorem dL_same_153 : decode cL_same 153 = .ok (.aload_n 0, 1) := by decide +kernel
theorem dL_same_154 : decode cL_same 154 = .ok (.iload_n 3, 1) := by decide +kernel
theorem dL_same_155 : decode cL_same 155 = .ok (.iload 4, 2) := by decide +kernel
theorem dL_same_157 : decode cL_same 157 = .ok (.invokevirtual 71, 3) := by decide +kernel
theorem dL_same_160 : decode cL_same 160 = .ok (.aload_n 1, 1) := by decide +kernel
theorem dL_same_161 : decode cL_same 161 = .ok (.iload_n 3, 1) := by decide +kernel
theorem dL_same_162 : decode cL_same 162 = .ok (.iload 4, 2) := by decide +kernel
theorem dL_same_164 : decode cL_same 164 = .ok (.invokevirtual 71, 3) := by decide +kernel
theorem dL_same_167 : decode cL_same 167 = .ok (.if_icmp .ne 24, 3) := by decide +kernel
theorem dL_same_170 : decode cL_same 170 = .ok (.aload_n 0, 1) := by decide +kernel
theorem dL_same_171 : decode cL_same 171 = .ok (.iload_n 3, 1) := by decide +kernel
theorem dL_same_172 : decode cL_same 172 = .ok (.iload 4, 2) := by decide +kernel
theorem dL_same_174 : decode cL_same 174 = .ok (.invokevirtual 74, 3) := by decide +kernel
theorem dL_same_177 : decode cL_same 177 = .ok (.aload_n 1, 1) := by decide +kernel
theorem dL_same_178 : decode cL_same 178 = .ok (.iload_n 3, 1) := by decide +kernel
theorem dL_same_179 : decode cL_same 179 = .ok (.iload 4, 2) := by decide +kernel
theorem dL_same_181 : decode cL_same 181 = .ok (.invokevirtual 74, 3) := by decide +kernel
theorem dL_same_184 : decode cL_same 184 = .ok (.if_icmp .ne 7, 3) := by decide +kernel
theorem dL_same_187 : decode cL_same 187 = .ok (.iconst 1, 1) := by decide +kernel
theorem dL_same_188 : decode cL_same 188 = .ok (.goto 4, 3) := by decide +kernel
theorem dL_same_191 : decode cL_same 191 = .ok (.iconst 0, 1) := by decide +kernel
theorem dL_same_192 : decode cL_same 192 = .ok (.istore_n 2, 1) := by decide +kernel
theorem dL_same_193 : decode cL_same 193 = .ok (.iinc 4 1, 3) := by decide +kernel
theorem dL_same_196 : decode cL_same 196 = .ok (.goto (-53), 3) := by decide +kernel
theorem dL_same_199 : decode cL_same 199 = .ok (.iinc 3 1, 3) := by decide +kernel
theorem dL_same_202 : decode cL_same 202 = .ok (.goto (-71), 3) := by decide +kernel
theorem dL_same_205 : decode cL_same 205 = .ok (.iconst 0, 1) := by decide +kernel
theorem dL_same_206 : decode cL_same 206 = .ok (.istore_n 3, 1) := by decide +kernel
theorem dL_same_207 : decode cL_same 207 = .ok (.iload_n 3, 1) := by decide +kernel
theorem dL_same_208 : decode cL_same 208 = .ok (.bipush 100, 2) := by decide +kernel
theorem dL_same_210 : decode cL_same 210 = .ok (.if_icmp .ge 49, 3) := by decide +kernel
theorem dL_same_213 : decode cL_same 213 = .ok (.iload_n 2, 1) := by decide +kernel
theorem dL_same_214 : decode cL_same 214 = .ok (.ifCond .eq 45, 3) := by decide +kernel
theorem dL_same_217 : decode cL_same 217 = .ok (.aload_n 0, 1) := by decide +kernel
theorem dL_same_218 : decode cL_same 218 = .ok (.iload_n 3, 1) := by decide +kernel
theorem dL_same_219 : decode cL_same 219 = .ok (.iconst 0, 1) := by decide +kernel
theorem dL_same_220 : decode cL_same 220 = .ok (.invokevirtual 55, 3) := by decide +kernel
theorem dL_same_223 : decode cL_same 223 = .ok (.aload_n 1, 1) := by decide +kernel
theorem dL_same_224 : decode cL_same 224 = .ok (.iload_n 3, 1) := by decide +kernel
theorem dL_same_225 : decode cL_same 225 = .ok (.iconst 0, 1) := by decide +kernel
theorem dL_same_226 : decode cL_same 226 = .ok (.invokevirtual 55, 3) := by decide +kernel
theorem dL_same_229 : decode cL_same 229 = .ok (.if_icmp .ne 22, 3) := by decide +kernel
theorem dL_same_232 : decode cL_same 232 = .ok (.aload_n 0, 1) := by decide +kernel
theorem dL_same_233 : decode cL_same 233 = .ok (.iload_n 3, 1) := by decide +kernel
theorem dL_same_234 : decode cL_same 234 = .ok (.iconst 2, 1) := by decide +kernel
theorem dL_same_235 : decode cL_same 235 = .ok (.invokevirtual 55, 3) := by decide +kernel
theorem dL_same_238 : decode cL_same 238 = .ok (.aload_n 1, 1) := by decide +kernel
theorem dL_same_239 : decode cL_same 239 = .ok (.iload_n 3, 1) := by decide +kernel
theorem dL_same_240 : decode cL_same 240 = .ok (.iconst 2, 1) := by decide +kernel
theorem dL_same_241 : decode cL_same 241 = .ok (.invokevirtual 55, 3) := by decide +kernel
theorem dL_same_244 : decode cL_same 244 = .ok (.if_icmp .ne 7, 3) := by decide +kernel
theorem dL_same_247 : decode cL_same 247 = .ok (.iconst 1, 1) := by decide +kernel
theorem dL_same_248 : decode cL_same 248 = .ok (.goto 4, 3) := by decide +kernel
theorem dL_same_251 : decode cL_same 251 = .ok (.iconst 0, 1) := by decide +kernel
theorem dL_same_252 : decode cL_same 252 = .ok (.istore_n 2, 1) := by decide +kernel
theorem dL_same_253 : decode cL_same 253 = .ok (.iinc 3 1, 3) := by decide +kernel
theorem dL_same_256 : decode cL_same 256 = .ok (.goto (-49), 3) := by decide +kernel
theorem dL_same_259 : decode cL_same 259 = .ok (.iload_n 2, 1) := by decide +kernel
theorem dL_same_260 : decode cL_same 260 = .ok (.ireturn, 1) := by decide +kernel
theorem dL_refuses_0 : decode cL_refuses 0 = .ok (.iload_n 1, 1) := by decide +kernel
theorem dL_refuses_1 : decode cL_refuses 1 = .ok (.iconst 2, 1) := by decide +kernel
theorem dL_refuses_2 : decode cL_refuses 2 = .ok (.irem, 1) := by decide +kernel
theorem dL_refuses_3 : decode cL_refuses 3 = .ok (.ifCond .ne 9, 3) := by decide +kernel
theorem dL_refuses_6 : decode cL_refuses 6 = .ok (.iconst 4, 1) := by decide +kernel
theorem dL_refuses_7 : decode cL_refuses 7 = .ok (.iload_n 1, 1) := by decide +kernel
theorem dL_refuses_8 : decode cL_refuses 8 = .ok (.iadd, 1) := by decide +kernel
theorem dL_refuses_9 : decode cL_refuses 9 = .ok (.goto 6, 3) := by decide +kernel
theorem dL_refuses_12 : decode cL_refuses 12 = .ok (.iconst (-1), 1) := by decide +kernel
theorem dL_refuses_13 : decode cL_refuses 13 = .ok (.iload_n 1, 1) := by decide +kernel
theorem dL_refuses_14 : decode cL_refuses 14 = .ok (.isub, 1) := by decide +kernel
theorem dL_refuses_15 : decode cL_refuses 15 = .ok (.istore_n 2, 1) := by decide +kernel
theorem dL_refuses_16 : decode cL_refuses 16 = .ok (.iload_n 1, 1) := by decide +kernel
theorem dL_refuses_17 : decode cL_refuses 17 = .ok (.iconst 2, 1) := by decide +kernel
theorem dL_refuses_18 : decode cL_refuses 18 = .ok (.irem, 1) := by decide +kernel
theorem dL_refuses_19 : decode cL_refuses 19 = .ok (.ifCond .ne 10, 3) := by decide +kernel
theorem dL_refuses_22 : decode cL_refuses 22 = .ok (.bipush 100, 2) := by decide +kernel
theorem dL_refuses_24 : decode cL_refuses 24 = .ok (.iload_n 1, 1) := by decide +kernel
theorem dL_refuses_25 : decode cL_refuses 25 = .ok (.iadd, 1) := by decide +kernel
theorem dL_refuses_26 : decode cL_refuses 26 = .ok (.goto 6, 3) := by decide +kernel
theorem dL_refuses_29 : decode cL_refuses 29 = .ok (.iconst (-1), 1) := by decide +kernel
theorem dL_refuses_30 : decode cL_refuses 30 = .ok (.iload_n 1, 1) := by decide +kernel
theorem dL_refuses_31 : decode cL_refuses 31 = .ok (.isub, 1) := by decide +kernel
theorem dL_refuses_32 : decode cL_refuses 32 = .ok (.istore_n 3, 1) := by decide +kernel
theorem dL_refuses_33 : decode cL_refuses 33 = .ok (.iload_n 1, 1) := by decide +kernel
theorem dL_refuses_34 : decode cL_refuses 34 = .ok (.iconst 2, 1) := by decide +kernel
theorem dL_refuses_35 : decode cL_refuses 35 = .ok (.irem, 1) := by decide +kernel
theorem dL_refuses_36 : decode cL_refuses 36 = .ok (.ifCond .ne 13, 3) := by decide +kernel
theorem dL_refuses_39 : decode cL_refuses 39 = .ok (.aload_n 0, 1) := by decide +kernel
theorem dL_refuses_40 : decode cL_refuses 40 = .ok (.iconst 2, 1) := by decide +kernel
theorem dL_refuses_41 : decode cL_refuses 41 = .ok (.invokevirtual 80, 3) := by decide +kernel
theorem dL_refuses_44 : decode cL_refuses 44 = .ok (.iload_n 1, 1) := by decide +kernel
theorem dL_refuses_45 : decode cL_refuses 45 = .ok (.iadd, 1) := by decide +kernel
theorem dL_refuses_46 : decode cL_refuses 46 = .ok (.goto 6, 3) := by decide +kernel
theorem dL_refuses_49 : decode cL_refuses 49 = .ok (.iconst (-1), 1) := by decide +kernel
theorem dL_refuses_50 : decode cL_refuses 50 = .ok (.iload_n 1, 1) := by decide +kernel
theorem dL_refuses_51 : decode cL_refuses 51 = .ok (.isub, 1) := by decide +kernel
theorem dL_refuses_52 : decode cL_refuses 52 = .ok (.istore 4, 2) := by decide +kernel
theorem dL_refuses_54 : decode cL_refuses 54 = .ok (.aload_n 0, 1) := by decide +kernel
theorem dL_refuses_55 : decode cL_refuses 55 = .ok (.iload_n 3, 1) := by decide +kernel
theorem dL_refuses_56 : decode cL_refuses 56 = .ok (.invokevirtual 9, 3) := by decide +kernel
theorem dL_refuses_59 : decode cL_refuses 59 = .ok (.iconst (-1), 1) := by decide +kernel
theorem dL_refuses_60 : decode cL_refuses 60 = .ok (.if_icmp .ne 460, 3) := by decide +kernel
theorem dL_refuses_63 : decode cL_refuses 63 = .ok (.aload_n 0, 1) := by decide +kernel
theorem dL_refuses_64 : decode cL_refuses 64 = .ok (.bipush 77, 2) := by decide +kernel
theorem dL_refuses_66 : decode cL_refuses 66 = .ok (.invokevirtual 9, 3) := by decide +kernel
theorem dL_refuses_69 : decode cL_refuses 69 = .ok (.bipush (-4), 2) := by decide +kernel
theorem dL_refuses_71 : decode cL_refuses 71 = .ok (.if_icmp .ne 449, 3) := by decide +kernel
theorem dL_refuses_74 : decode cL_refuses 74 = .ok (.aload_n 0, 1) := by decide +kernel
theorem dL_refuses_75 : decode cL_refuses 75 = .ok (.iload_n 2, 1) := by decide +kernel
theorem dL_refuses_76 : decode cL_refuses 76 = .ok (.iconst 0, 1) := by decide +kernel
theorem dL_refuses_77 : decode cL_refuses 77 = .ok (.iconst 0, 1) := by decide +kernel
theorem dL_refuses_78 : decode cL_refuses 78 = .ok (.invokevirtual 15, 3) := by decide +kernel
theorem dL_refuses_81 : decode cL_refuses 81 = .ok (.iconst (-1), 1) := by decide +kernel
theorem dL_refuses_82 : decode cL_refuses 82 = .ok (.if_icmp .ne 438, 3) := by decide +kernel
theorem dL_refuses_85 : decode cL_refuses 85 = .ok (.aload_n 0, 1) := by decide +kernel
theorem dL_refuses_86 : decode cL_refuses 86 = .ok (.iconst 0, 1) := by decide +kernel
theorem dL_refuses_87 : decode cL_refuses 87 = .ok (.iconst 4, 1) := by decide +kernel
theorem dL_refuses_88 : decode cL_refuses 88 = .ok (.iload_n 1, 1) := by decide +kernel
theorem dL_refuses_89 : decode cL_refuses 89 = .ok (.iadd, 1) := by decide +kernel
theorem dL_refuses_90 : decode cL_refuses 90 = .ok (.iconst 0, 1) := by decide +kernel
theorem dL_refuses_91 : decode cL_refuses 91 = .ok (.invokevirtual 15, 3) := by decide +kernel
theorem dL_refuses_94 : decode cL_refuses 94 = .ok (.bipush (-2), 2) := by decide +kernel
theorem dL_refuses_96 : decode cL_refuses 96 = .ok (.if_icmp .ne 424, 3) := by decide +kernel
theorem dL_refuses_99 : decode cL_refuses 99 = .ok (.aload_n 0, 1) := by decide +kernel
theorem dL_refuses_100 : decode cL_refuses 100 = .ok (.iconst 1, 1) := by decide +kernel
theorem dL_refuses_101 : decode cL_refuses 101 = .ok (.iconst 0, 1) := by decide +kernel
theorem dL_refuses_102 : decode cL_refuses 102 = .ok (.bipush 8, 2) := by decide +kernel
theorem dL_refuses_104 : decode cL_refuses 104 = .ok (.iload_n 1, 1) := by decide +kernel
theorem dL_refuses_105 : decode cL_refuses 105 = .ok (.iadd, 1) := by decide +kernel
theorem dL_refuses_106 : decode cL_refuses 106 = .ok (.invokevirtual 15, 3) := by decide +kernel
theorem dL_refuses_109 : decode cL_refuses 109 = .ok (.bipush (-2), 2) := by decide +kernel
theorem dL_refuses_111 : decode cL_refuses 111 = .ok (.if_icmp .ne 409, 3) := by decide +kernel
theorem dL_refuses_114 : decode cL_refuses 114 = .ok (.aload_n 0, 1) := by decide +kernel
theorem dL_refuses_115 : decode cL_refuses 115 = .ok (.iconst 1, 1) := by decide +kernel
theorem dL_refuses_116 : decode cL_refuses 116 = .ok (.iconst 2, 1) := by decide +kernel
theorem dL_refuses_117 : decode cL_refuses 117 = .ok (.iconst 0, 1) := by decide +kernel
theorem dL_refuses_118 : decode cL_refuses 118 = .ok (.invokevirtual 15, 3) := by decide +kernel
theorem dL_refuses_121 : decode cL_refuses 121 = .ok (.bipush (-2), 2) := by decide +kernel
theorem dL_refuses_123 : decode cL_refuses 123 = .ok (.if_icmp .ne 397, 3) := by decide +kernel
theorem dL_refuses_126 : decode cL_refuses 126 = .ok (.aload_n 0, 1) := by decide +kernel
theorem dL_refuses_127 : decode cL_refuses 127 = .ok (.iconst 1, 1) := by decide +kernel
theorem dL_refuses_128 : decode cL_refuses 128 = .ok (.iconst 3, 1) := by decide +kernel
theorem dL_refuses_129 : decode cL_refuses 129 = .ok (.sipush 256, 3) := by decide +kernel
theorem dL_refuses_132 : decode cL_refuses 132 = .ok (.iload_n 1, 1) := by decide +kernel
theorem dL_refuses_133 : decode cL_refuses 133 = .ok (.iadd, 1) := by decide +kernel
theorem dL_refuses_134 : decode cL_refuses 134 = .ok (.invokevirtual 15, 3) := by decide +kernel
theorem dL_refuses_137 : decode cL_refuses 137 = .ok (.bipush (-2), 2) := by decide +kernel
theorem dL_refuses_139 : decode cL_refuses 139 = .ok (.if_icmp .ne 381, 3) := by decide +kernel
theorem dL_refuses_142 : decode cL_refuses 142 = .ok (.aload_n 0, 1) := by decide +kernel
theorem dL_refuses_143 : decode cL_refuses 143 = .ok (.iconst 2, 1) := by decide +kernel
theorem dL_refuses_144 : decode cL_refuses 144 = .ok (.iconst 1, 1) := by decide +kernel
theorem dL_refuses_145 : decode cL_refuses 145 = .ok (.aload_n 0, 1) := by decide +kernel
theorem dL_refuses_146 : decode cL_refuses 146 = .ok (.iconst 2, 1) := by decide +kernel
theorem dL_refuses_147 : decode cL_refuses 147 = .ok (.iconst 1, 1) := by decide +kernel
theorem dL_refuses_148 : decode cL_refuses 148 = .ok (.invokevirtual 71, 3) := by decide +kernel
theorem dL_refuses_151 : decode cL_refuses 151 = .ok (.invokevirtual 15, 3) := by decide +kernel
theorem dL_refuses_154 : decode cL_refuses 154 = .ok (.bipush (-5), 2) := by decide +kernel
theorem dL_refuses_156 : decode cL_refuses 156 = .ok (.if_icmp .ne 364, 3) := by decide +kernel
theorem dL_refuses_159 : decode cL_refuses 159 = .ok (.aload_n 0, 1) := by decide +kernel
theorem dL_refuses_160 : decode cL_refuses 160 = .ok (.iconst 1, 1) := by decide +kernel
theorem dL_refuses_161 : decode cL_refuses 161 = .ok (.iload_n 3, 1) := by decide +kernel
theorem dL_refuses_162 : decode cL_refuses 162 = .ok (.iconst 0, 1) := by decide +kernel
theorem dL_refuses_163 : decode cL_refuses 163 = .ok (.invokevirtual 19, 3) := by decide +kernel
theorem dL_refuses_166 : decode cL_refuses 166 = .ok (.iconst (-1), 1) := by decide +kernel
theorem dL_refuses_167 : decode cL_refuses 167 = .ok (.if_icmp .ne 353, 3) := by decide +kernel
theorem dL_refuses_170 : decode cL_refuses 170 = .ok (.aload_n 0, 1) := by decide +kernel
theorem dL_refuses_171 : decode cL_refuses 171 = .ok (.iconst 1, 1) := by decide +kernel
theorem dL_refuses_172 : decode cL_refuses 172 = .ok (.iconst 0, 1) := by decide +kernel
theorem dL_refuses_173 : decode cL_refuses 173 = .ok (.iload_n 3, 1) := by decide +kernel
theorem dL_refuses_174 : decode cL_refuses 174 = .ok (.invokevirtual 19, 3) := by decide +kernel
theorem dL_refuses_177 : decode cL_refuses 177 = .ok (.iconst (-1), 1) := by decide +kernel
theorem dL_refuses_178 : decode cL_refuses 178 = .ok (.if_icmp .ne 342, 3) := by decide +kernel
theorem dL_refuses_181 : decode cL_refuses 181 = .ok (.aload_n 0, 1) := by decide +kernel
theorem dL_refuses_182 : decode cL_refuses 182 = .ok (.bipush 100, 2) := by decide +kernel
theorem dL_refuses_184 : decode cL_refuses 184 = .ok (.iload_n 1, 1) := by decide +kernel
theorem dL_refuses_185 : decode cL_refuses 185 = .ok (.iadd, 1) := by decide +kernel
theorem dL_refuses_186 : decode cL_refuses 186 = .ok (.iconst 0, 1) := by decide +kernel
theorem dL_refuses_187 : decode cL_refuses 187 = .ok (.iconst 0, 1) := by decide +kernel
theorem dL_refuses_188 : decode cL_refuses 188 = .ok (.invokevirtual 19, 3) := by decide +kernel
theorem dL_refuses_191 : decode cL_refuses 191 = .ok (.bipush (-2), 2) := by decide +kernel
theorem dL_refuses_193 : decode cL_refuses 193 = .ok (.if_icmp .ne 327, 3) := by decide +kernel
theorem dL_refuses_196 : decode cL_refuses 196 = .ok (.aload_n 0, 1) := by decide +kernel
theorem dL_refuses_197 : decode cL_refuses 197 = .ok (.iconst 1, 1) := by decide +kernel
theorem dL_refuses_198 : decode cL_refuses 198 = .ok (.bipush 9, 2) := by decide +kernel
theorem dL_refuses_200 : decode cL_refuses 200 = .ok (.bipush 9, 2) := by decide +kernel
theorem dL_refuses_202 : decode cL_refuses 202 = .ok (.invokevirtual 19, 3) := by decide +kernel
theorem dL_refuses_205 : decode cL_refuses 205 = .ok (.bipush (-4), 2) := by decide +kernel
theorem dL_refuses_207 : decode cL_refuses 207 = .ok (.if_icmp .ne 313, 3) := by decide +kernel
theorem dL_refuses_210 : decode cL_refuses 210 = .ok (.aload_n 0, 1) := by decide +kernel
theorem dL_refuses_211 : decode cL_refuses 211 = .ok (.iload_n 2, 1) := by decide +kernel
theorem dL_refuses_212 : decode cL_refuses 212 = .ok (.iconst 0, 1) := by decide +kernel
theorem dL_refuses_213 : decode cL_refuses 213 = .ok (.invokevirtual 22, 3) := by decide +kernel
theorem dL_refuses_216 : decode cL_refuses 216 = .ok (.iconst (-1), 1) := by decide +kernel
theorem dL_refuses_217 : decode cL_refuses 217 = .ok (.if_icmp .ne 303, 3) := by decide +kernel
theorem dL_refuses_220 : decode cL_refuses 220 = .ok (.aload_n 0, 1) := by decide +kernel
theorem dL_refuses_221 : decode cL_refuses 221 = .ok (.iconst 0, 1) := by decide +kernel
theorem dL_refuses_222 : decode cL_refuses 222 = .ok (.iload_n 2, 1) := by decide +kernel
theorem dL_refuses_223 : decode cL_refuses 223 = .ok (.invokevirtual 22, 3) := by decide +kernel
theorem dL_refuses_226 : decode cL_refuses 226 = .ok (.iconst (-1), 1) := by decide +kernel
theorem dL_refuses_227 : decode cL_refuses 227 = .ok (.if_icmp .ne 293, 3) := by decide +kernel
theorem dL_refuses_230 : decode cL_refuses 230 = .ok (.aload_n 0, 1) := by decide +kernel
theorem dL_refuses_231 : decode cL_refuses 231 = .ok (.iload_n 1, 1) := by decide +kernel
theorem dL_refuses_232 : decode cL_refuses 232 = .ok (.iconst 4, 1) := by decide +kernel
theorem dL_refuses_233 : decode cL_refuses 233 = .ok (.irem, 1) := by decide +kernel
theorem dL_refuses_234 : decode cL_refuses 234 = .ok (.iload_n 1, 1) := by decide +kernel
theorem dL_refuses_235 : decode cL_refuses 235 = .ok (.iconst 4, 1) := by decide +kernel
theorem dL_refuses_236 : decode cL_refuses 236 = .ok (.irem, 1) := by decide +kernel
theorem dL_refuses_237 : decode cL_refuses 237 = .ok (.invokevirtual 22, 3) := by decide +kernel
theorem dL_refuses_240 : decode cL_refuses 240 = .ok (.bipush (-4), 2) := by decide +kernel
theorem dL_refuses_242 : decode cL_refuses 242 = .ok (.if_icmp .ne 278, 3) := by decide +kernel
theorem dL_refuses_245 : decode cL_refuses 245 = .ok (.aload_n 0, 1) := by decide +kernel
theorem dL_refuses_246 : decode cL_refuses 246 = .ok (.iconst 0, 1) := by decide +kernel
theorem dL_refuses_247 : decode cL_refuses 247 = .ok (.invokevirtual 52, 3) := by decide +kernel
theorem dL_refuses_250 : decode cL_refuses 250 = .ok (.bipush (-2), 2) := by decide +kernel
theorem dL_refuses_252 : decode cL_refuses 252 = .ok (.if_icmp .ne 268, 3) := by decide +kernel
theorem dL_refuses_255 : decode cL_refuses 255 = .ok (.aload_n 0, 1) := by decide +kernel
theorem dL_refuses_256 : decode cL_refuses 256 = .ok (.bipush 21, 2) := by decide +kernel
theorem dL_refuses_258 : decode cL_refuses 258 = .ok (.iload_n 1, 1) := by decide +kernel
theorem dL_refuses_259 : decode cL_refuses 259 = .ok (.iadd, 1) := by decide +kernel
theorem dL_refuses_260 : decode cL_refuses 260 = .ok (.invokevirtual 52, 3) := by decide +kernel
theorem dL_refuses_263 : decode cL_refuses 263 = .ok (.bipush (-2), 2) := by decide +kernel
theorem dL_refuses_265 : decode cL_refuses 265 = .ok (.if_icmp .ne 255, 3) := by decide +kernel
theorem dL_refuses_268 : decode cL_refuses 268 = .ok (.aload_n 0, 1) := by decide +kernel
theorem dL_refuses_269 : decode cL_refuses 269 = .ok (.bipush 10, 2) := by decide +kernel
theorem dL_refuses_271 : decode cL_refuses 271 = .ok (.iload_n 1, 1) := by decide +kernel
theorem dL_refuses_272 : decode cL_refuses 272 = .ok (.iadd, 1) := by decide +kernel
theorem dL_refuses_273 : decode cL_refuses 273 = .ok (.invokevirtual 26, 3) := by decide +kernel
theorem dL_refuses_276 : decode cL_refuses 276 = .ok (.bipush (-2), 2) := by decide +kernel
theorem dL_refuses_278 : decode cL_refuses 278 = .ok (.if_icmp .ne 242, 3) := by decide +kernel
theorem dL_refuses_281 : decode cL_refuses 281 = .ok (.aload_n 0, 1) := by decide +kernel
theorem dL_refuses_282 : decode cL_refuses 282 = .ok (.aload_n 0, 1) := by decide +kernel
theorem dL_refuses_283 : decode cL_refuses 283 = .ok (.bipush 13, 2) := by decide +kernel
theorem dL_refuses_285 : decode cL_refuses 285 = .ok (.invokevirtual 80, 3) := by decide +kernel
theorem dL_refuses_288 : decode cL_refuses 288 = .ok (.invokevirtual 26, 3) := by decide +kernel
theorem dL_refuses_291 : decode cL_refuses 291 = .ok (.bipush (-5), 2) := by decide +kernel
theorem dL_refuses_293 : decode cL_refuses 293 = .ok (.if_icmp .ne 227, 3) := by decide +kernel
theorem dL_refuses_296 : decode cL_refuses 296 = .ok (.aload_n 0, 1) := by decide +kernel
theorem dL_refuses_297 : decode cL_refuses 297 = .ok (.iload_n 3, 1) := by decide +kernel
theorem dL_refuses_298 : decode cL_refuses 298 = .ok (.iconst 0, 1) := by decide +kernel
theorem dL_refuses_299 : decode cL_refuses 299 = .ok (.invokevirtual 55, 3) := by decide +kernel
theorem dL_refuses_302 : decode cL_refuses 302 = .ok (.iconst (-1), 1) := by decide +kernel
theorem dL_refuses_303 : decode cL_refuses 303 = .ok (.if_icmp .ne 217, 3) := by decide +kernel
theorem dL_refuses_306 : decode cL_refuses 306 = .ok (.aload_n 0, 1) := by decide +kernel
theorem dL_refuses_307 : decode cL_refuses 307 = .ok (.iconst 5, 1) := by decide +kernel
theorem dL_refuses_308 : decode cL_refuses 308 = .ok (.iconst 4, 1) := by decide +kernel
theorem dL_refuses_309 : decode cL_refuses 309 = .ok (.iload_n 1, 1) := by decide +kernel
theorem dL_refuses_310 : decode cL_refuses 310 = .ok (.iadd, 1) := by decide +kernel
theorem dL_refuses_311 : decode cL_refuses 311 = .ok (.invokevirtual 55, 3) := by decide +kernel
theorem dL_refuses_314 : decode cL_refuses 314 = .ok (.bipush (-2), 2) := by decide +kernel
theorem dL_refuses_316 : decode cL_refuses 316 = .ok (.if_icmp .ne 204, 3) := by decide +kernel
theorem dL_refuses_319 : decode cL_refuses 319 = .ok (.aload_n 0, 1) := by decide +kernel
theorem dL_refuses_320 : decode cL_refuses 320 = .ok (.iload_n 2, 1) := by decide +kernel
theorem dL_refuses_321 : decode cL_refuses 321 = .ok (.iconst 0, 1) := by decide +kernel
theorem dL_refuses_322 : decode cL_refuses 322 = .ok (.invokevirtual 71, 3) := by decide +kernel
theorem dL_refuses_325 : decode cL_refuses 325 = .ok (.iconst (-1), 1) := by decide +kernel
theorem dL_refuses_326 : decode cL_refuses 326 = .ok (.if_icmp .ne 194, 3) := by decide +kernel
theorem dL_refuses_329 : decode cL_refuses 329 = .ok (.aload_n 0, 1) := by decide +kernel
theorem dL_refuses_330 : decode cL_refuses 330 = .ok (.iconst 0, 1) := by decide +kernel
theorem dL_refuses_331 : decode cL_refuses 331 = .ok (.bipush 7, 2) := by decide +kernel
theorem dL_refuses_333 : decode cL_refuses 333 = .ok (.iload_n 1, 1) := by decide +kernel
theorem dL_refuses_334 : decode cL_refuses 334 = .ok (.iadd, 1) := by decide +kernel
theorem dL_refuses_335 : decode cL_refuses 335 = .ok (.invokevirtual 71, 3) := by decide +kernel
theorem dL_refuses_338 : decode cL_refuses 338 = .ok (.bipush (-2), 2) := by decide +kernel
theorem dL_refuses_340 : decode cL_refuses 340 = .ok (.if_icmp .ne 180, 3) := by decide +kernel
theorem dL_refuses_343 : decode cL_refuses 343 = .ok (.aload_n 0, 1) := by decide +kernel
theorem dL_refuses_344 : decode cL_refuses 344 = .ok (.iload_n 2, 1) := by decide +kernel
theorem dL_refuses_345 : decode cL_refuses 345 = .ok (.iconst 0, 1) := by decide +kernel
theorem dL_refuses_346 : decode cL_refuses 346 = .ok (.invokevirtual 74, 3) := by decide +kernel
theorem dL_refuses_349 : decode cL_refuses 349 = .ok (.iconst (-1), 1) := by decide +kernel
theorem dL_refuses_350 : decode cL_refuses 350 = .ok (.if_icmp .ne 170, 3) := by decide +kernel
theorem dL_refuses_353 : decode cL_refuses 353 = .ok (.aload_n 0, 1) := by decide +kernel
theorem dL_refuses_354 : decode cL_refuses 354 = .ok (.iconst 0, 1) := by decide +kernel
theorem dL_refuses_355 : decode cL_refuses 355 = .ok (.iconst 5, 1) := by decide +kernel
theorem dL_refuses_356 : decode cL_refuses 356 = .ok (.iload_n 1, 1) := by decide +kernel
theorem dL_refuses_357 : decode cL_refuses 357 = .ok (.iadd, 1) := by decide +kernel
theorem dL_refuses_358 : decode cL_refuses 358 = .ok (.invokevirtual 74, 3) := by decide +kernel
theorem dL_refuses_361 : decode cL_refuses 361 = .ok (.bipush (-2), 2) := by decide +kernel
theorem dL_refuses_363 : decode cL_refuses 363 = .ok (.if_icmp .ne 157, 3) := by decide +kernel
theorem dL_refuses_366 : decode cL_refuses 366 = .ok (.aload_n 0, 1) := by decide +kernel
theorem dL_refuses_367 : decode cL_refuses 367 = .ok (.iload 4, 2) := by decide +kernel
theorem dL_refuses_369 : decode cL_refuses 369 = .ok (.iconst 0, 1) := by decide +kernel
theorem dL_refuses_370 : decode cL_refuses 370 = .ok (.invokevirtual 58, 3) := by decide +kernel
theorem dL_refuses_373 : decode cL_refuses 373 = .ok (.iconst (-1), 1) := by decide +kernel
theorem dL_refuses_374 : decode cL_refuses 374 = .ok (.if_icmp .ne 146, 3) := by decide +kernel
theorem dL_refuses_377 : decode cL_refuses 377 = .ok (.aload_n 0, 1) := by decide +kernel
theorem dL_refuses_378 : decode cL_refuses 378 = .ok (.iload_n 2, 1) := by decide +kernel
theorem dL_refuses_379 : decode cL_refuses 379 = .ok (.iconst 0, 1) := by decide +kernel
theorem dL_refuses_380 : decode cL_refuses 380 = .ok (.iconst 0, 1) := by decide +kernel
theorem dL_refuses_381 : decode cL_refuses 381 = .ok (.iconst 0, 1) := by decide +kernel
theorem dL_refuses_382 : decode cL_refuses 382 = .ok (.invokevirtual 86, 3) := by decide +kernel
theorem dL_refuses_385 : decode cL_refuses 385 = .ok (.iconst (-1), 1) := by decide +kernel
theorem dL_refuses_386 : decode cL_refuses 386 = .ok (.if_icmp .ne 134, 3) := by decide +kernel
theorem dL_refuses_389 : decode cL_refuses 389 = .ok (.aload_n 0, 1) := by decide +kernel
theorem dL_refuses_390 : decode cL_refuses 390 = .ok (.iconst 0, 1) := by decide +kernel
theorem dL_refuses_391 : decode cL_refuses 391 = .ok (.iload_n 3, 1) := by decide +kernel
theorem dL_refuses_392 : decode cL_refuses 392 = .ok (.iconst 0, 1) := by decide +kernel
theorem dL_refuses_393 : decode cL_refuses 393 = .ok (.iconst 0, 1) := by decide +kernel
theorem dL_refuses_394 : decode cL_refuses 394 = .ok (.invokevirtual 86, 3) := by decide +kernel
theorem dL_refuses_397 : decode cL_refuses 397 = .ok (.iconst (-1), 1) := by decide +kernel
theorem dL_refuses_398 : decode cL_refuses 398 = .ok (.if_icmp .ne 122, 3) := by decide +kernel
theorem dL_refuses_401 : decode cL_refuses 401 = .ok (.aload_n 0, 1) := by decide +kernel
theorem dL_refuses_402 : decode cL_refuses 402 = .ok (.iconst 0, 1) := by decide +kernel
theorem dL_refuses_403 : decode cL_refuses 403 = .ok (.iconst 0, 1) := by decide +kernel
theorem dL_refuses_404 : decode cL_refuses 404 = .ok (.iconst (-1), 1) := by decide +kernel
theorem dL_refuses_405 : decode cL_refuses 405 = .ok (.iload_n 1, 1) := by decide +kernel
theorem dL_refuses_406 : decode cL_refuses 406 = .ok (.isub, 1) := by decide +kernel
theorem dL_refuses_407 : decode cL_refuses 407 = .ok (.iconst 0, 1) := by decide +kernel
theorem dL_refuses_408 : decode cL_refuses 408 = .ok (.invokevirtual 86, 3) := by decide +kernel
theorem dL_refuses_411 : decode cL_refuses 411 = .ok (.bipush (-2), 2) := by decide +kernel
theorem dL_refuses_413 : decode cL_refuses 413 = .ok (.if_icmp .ne 107, 3) := by decide +kernel
theorem dL_refuses_416 : decode cL_refuses 416 = .ok (.aload_n 0, 1) := by decide +kernel
theorem dL_refuses_417 : decode cL_refuses 417 = .ok (.iconst 0, 1) := by decide +kernel
theorem dL_refuses_418 : decode cL_refuses 418 = .ok (.iconst 0, 1) := by decide +kernel
theorem dL_refuses_419 : decode cL_refuses 419 = .ok (.iconst 0, 1) := by decide +kernel
theorem dL_refuses_420 : decode cL_refuses 420 = .ok (.iconst 2, 1) := by decide +kernel
theorem dL_refuses_421 : decode cL_refuses 421 = .ok (.iload_n 1, 1) := by decide +kernel
theorem dL_refuses_422 : decode cL_refuses 422 = .ok (.iadd, 1) := by decide +kernel
theorem dL_refuses_423 : decode cL_refuses 423 = .ok (.invokevirtual 86, 3) := by decide +kernel
theorem dL_refuses_426 : decode cL_refuses 426 = .ok (.bipush (-2), 2) := by decide +kernel
theorem dL_refuses_428 : decode cL_refuses 428 = .ok (.if_icmp .ne 92, 3) := by decide +kernel
theorem dL_refuses_431 : decode cL_refuses 431 = .ok (.aload_n 0, 1) := by decide +kernel
theorem dL_refuses_432 : decode cL_refuses 432 = .ok (.iload_n 2, 1) := by decide +kernel
theorem dL_refuses_433 : decode cL_refuses 433 = .ok (.iconst 0, 1) := by decide +kernel
theorem dL_refuses_434 : decode cL_refuses 434 = .ok (.invokevirtual 68, 3) := by decide +kernel
theorem dL_refuses_437 : decode cL_refuses 437 = .ok (.iconst (-1), 1) := by decide +kernel
theorem dL_refuses_438 : decode cL_refuses 438 = .ok (.if_icmp .ne 82, 3) := by decide +kernel
theorem dL_refuses_441 : decode cL_refuses 441 = .ok (.aload_n 0, 1) := by decide +kernel
theorem dL_refuses_442 : decode cL_refuses 442 = .ok (.iconst 0, 1) := by decide +kernel
theorem dL_refuses_443 : decode cL_refuses 443 = .ok (.iload_n 3, 1) := by decide +kernel
theorem dL_refuses_444 : decode cL_refuses 444 = .ok (.invokevirtual 68, 3) := by decide +kernel
theorem dL_refuses_447 : decode cL_refuses 447 = .ok (.iconst (-1), 1) := by decide +kernel
theorem dL_refuses_448 : decode cL_refuses 448 = .ok (.if_icmp .ne 72, 3) := by decide +kernel
theorem dL_refuses_451 : decode cL_refuses 451 = .ok (.aload_n 0, 1) := by decide +kernel
theorem dL_refuses_452 : decode cL_refuses 452 = .ok (.bipush 14, 2) := by decide +kernel
theorem dL_refuses_454 : decode cL_refuses 454 = .ok (.iload_n 1, 1) := by decide +kernel
theorem dL_refuses_455 : decode cL_refuses 455 = .ok (.iadd, 1) := by decide +kernel
theorem dL_refuses_456 : decode cL_refuses 456 = .ok (.invokevirtual 80, 3) := by decide +kernel
theorem dL_refuses_459 : decode cL_refuses 459 = .ok (.bipush (-2), 2) := by decide +kernel
theorem dL_refuses_461 : decode cL_refuses 461 = .ok (.if_icmp .ne 59, 3) := by decide +kernel
theorem dL_refuses_464 : decode cL_refuses 464 = .ok (.aload_n 0, 1) := by decide +kernel
theorem dL_refuses_465 : decode cL_refuses 465 = .ok (.iload_n 3, 1) := by decide +kernel
theorem dL_refuses_466 : decode cL_refuses 466 = .ok (.invokevirtual 64, 3) := by decide +kernel
theorem dL_refuses_469 : decode cL_refuses 469 = .ok (.ldc 90, 2) := by decide +kernel
theorem dL_refuses_471 : decode cL_refuses 471 = .ok (.fcmp .l, 1) := by decide +kernel
theorem dL_refuses_472 : decode cL_refuses 472 = .ok (.ifCond .ne 48, 3) := by decide +kernel
theorem dL_refuses_475 : decode cL_refuses 475 = .ok (.aload_n 0, 1) := by decide +kernel
theorem dL_refuses_476 : decode cL_refuses 476 = .ok (.iload_n 3, 1) := by decide +kernel
theorem dL_refuses_477 : decode cL_refuses 477 = .ok (.invokevirtual 61, 3) := by decide +kernel
theorem dL_refuses_480 : decode cL_refuses 480 = .ok (.iconst (-1), 1) := by decide +kernel
theorem dL_refuses_481 : decode cL_refuses 481 = .ok (.if_icmp .ne 39, 3) := by decide +kernel
theorem dL_refuses_484 : decode cL_refuses 484 = .ok (.aload_n 0, 1) := by decide +kernel
theorem dL_refuses_485 : decode cL_refuses 485 = .ok (.iconst 0, 1) := by decide +kernel
theorem dL_refuses_486 : decode cL_refuses 486 = .ok (.invokevirtual 83, 3) := by decide +kernel
theorem dL_refuses_489 : decode cL_refuses 489 = .ok (.bipush (-2), 2) := by decide +kernel
theorem dL_refuses_491 : decode cL_refuses 491 = .ok (.if_icmp .ne 29, 3) := by decide +kernel
theorem dL_refuses_494 : decode cL_refuses 494 = .ok (.aload_n 0, 1) := by decide +kernel
theorem dL_refuses_495 : decode cL_refuses 495 = .ok (.bipush 41, 2) := by decide +kernel
theorem dL_refuses_497 : decode cL_refuses 497 = .ok (.iload_n 1, 1) := by decide +kernel
theorem dL_refuses_498 : decode cL_refuses 498 = .ok (.iadd, 1) := by decide +kernel
theorem dL_refuses_499 : decode cL_refuses 499 = .ok (.invokevirtual 83, 3) := by decide +kernel
theorem dL_refuses_502 : decode cL_refuses 502 = .ok (.bipush (-2), 2) := by decide +kernel
theorem dL_refuses_504 : decode cL_refuses 504 = .ok (.if_icmp .ne 16, 3) := by decide +kernel
theorem dL_refuses_507 : decode cL_refuses 507 = .ok (.aload_n 0, 1) := by decide +kernel
theorem dL_refuses_508 : decode cL_refuses 508 = .ok (.iload_n 2, 1) := by decide +kernel
theorem dL_refuses_509 : decode cL_refuses 509 = .ok (.invokevirtual 77, 3) := by decide +kernel
theorem dL_refuses_512 : decode cL_refuses 512 = .ok (.iconst (-1), 1) := by decide +kernel
theorem dL_refuses_513 : decode cL_refuses 513 = .ok (.if_icmp .ne 7, 3) := by decide +kernel
theorem dL_refuses_516 : decode cL_refuses 516 = .ok (.iconst 1, 1) := by decide +kernel
theorem dL_refuses_517 : decode cL_refuses 517 = .ok (.goto 4, 3) := by decide +kernel
theorem dL_refuses_520 : decode cL_refuses 520 = .ok (.iconst 0, 1) := by decide +kernel
theorem dL_refuses_521 : decode cL_refuses 521 = .ok (.istore 5, 2) := by decide +kernel
theorem dL_refuses_523 : decode cL_refuses 523 = .ok (.aload_n 0, 1) := by decide +kernel
theorem dL_refuses_524 : decode cL_refuses 524 = .ok (.invokevirtual 39, 3) := by decide +kernel
theorem dL_refuses_527 : decode cL_refuses 527 = .ok (.istore 6, 2) := by decide +kernel
theorem dL_refuses_529 : decode cL_refuses 529 = .ok (.iload 5, 2) := by decide +kernel
theorem dL_refuses_531 : decode cL_refuses 531 = .ok (.ifCond .eq 73, 3) := by decide +kernel
theorem dL_refuses_534 : decode cL_refuses 534 = .ok (.iload 6, 2) := by decide +kernel
theorem dL_refuses_536 : decode cL_refuses 536 = .ok (.ifCond .lt 68, 3) := by decide +kernel
theorem dL_refuses_539 : decode cL_refuses 539 = .ok (.aload_n 0, 1) := by decide +kernel
theorem dL_refuses_540 : decode cL_refuses 540 = .ok (.invokevirtual 46, 3) := by decide +kernel
theorem dL_refuses_543 : decode cL_refuses 543 = .ok (.ifCond .ne 61, 3) := by decide +kernel
theorem dL_refuses_546 : decode cL_refuses 546 = .ok (.aload_n 0, 1) := by decide +kernel
theorem dL_refuses_547 : decode cL_refuses 547 = .ok (.invokevirtual 49, 3) := by decide +kernel
theorem dL_refuses_550 : decode cL_refuses 550 = .ok (.bipush (-100), 2) := by decide +kernel
theorem dL_refuses_552 : decode cL_refuses 552 = .ok (.if_icmp .ne 52, 3) := by decide +kernel
theorem dL_refuses_555 : decode cL_refuses 555 = .ok (.aload_n 0, 1) := by decide +kernel
theorem dL_refuses_556 : decode cL_refuses 556 = .ok (.iconst 0, 1) := by decide +kernel
theorem dL_refuses_557 : decode cL_refuses 557 = .ok (.iconst 2, 1) := by decide +kernel
theorem dL_refuses_558 : decode cL_refuses 558 = .ok (.invokevirtual 74, 3) := by decide +kernel
theorem dL_refuses_561 : decode cL_refuses 561 = .ok (.ifCond .gt 14, 3) := by decide +kernel
theorem dL_refuses_564 : decode cL_refuses 564 = .ok (.aload_n 0, 1) := by decide +kernel
theorem dL_refuses_565 : decode cL_refuses 565 = .ok (.iconst 0, 1) := by decide +kernel
theorem dL_refuses_566 : decode cL_refuses 566 = .ok (.iconst 1, 1) := by decide +kernel
theorem dL_refuses_567 : decode cL_refuses 567 = .ok (.invokevirtual 22, 3) := by decide +kernel
theorem dL_refuses_570 : decode cL_refuses 570 = .ok (.bipush (-4), 2) := by decide +kernel
theorem dL_refuses_572 : decode cL_refuses 572 = .ok (.if_icmp .ne 32, 3) := by decide +kernel
theorem dL_refuses_575 : decode cL_refuses 575 = .ok (.aload_n 0, 1) := by decide +kernel
theorem dL_refuses_576 : decode cL_refuses 576 = .ok (.bipush 59, 2) := by decide +kernel
theorem dL_refuses_578 : decode cL_refuses 578 = .ok (.invokevirtual 42, 3) := by decide +kernel
theorem dL_refuses_581 : decode cL_refuses 581 = .ok (.iconst 1, 1) := by decide +kernel
theorem dL_refuses_582 : decode cL_refuses 582 = .ok (.if_icmp .ne 22, 3) := by decide +kernel
theorem dL_refuses_585 : decode cL_refuses 585 = .ok (.aload_n 0, 1) := by decide +kernel
theorem dL_refuses_586 : decode cL_refuses 586 = .ok (.invokevirtual 46, 3) := by decide +kernel
theorem dL_refuses_589 : decode cL_refuses 589 = .ok (.ifCond .ne 15, 3) := by decide +kernel
theorem dL_refuses_592 : decode cL_refuses 592 = .ok (.aload_n 0, 1) := by decide +kernel
theorem dL_refuses_593 : decode cL_refuses 593 = .ok (.invokevirtual 39, 3) := by decide +kernel
theorem dL_refuses_596 : decode cL_refuses 596 = .ok (.iconst 1, 1) := by decide +kernel
theorem dL_refuses_597 : decode cL_refuses 597 = .ok (.if_icmp .ne 7, 3) := by decide +kernel
theorem dL_refuses_600 : decode cL_refuses 600 = .ok (.iconst 1, 1) := by decide +kernel
theorem dL_refuses_601 : decode cL_refuses 601 = .ok (.goto 4, 3) := by decide +kernel
theorem dL_refuses_604 : decode cL_refuses 604 = .ok (.iconst 0, 1) := by decide +kernel
theorem dL_refuses_605 : decode cL_refuses 605 = .ok (.ireturn, 1) := by decide +kernel
theorem dL_law_0 : decode cL_law 0 = .ok (.new 10, 3) := by decide +kernel
theorem dL_law_3 : decode cL_law 3 = .ok (.dup, 1) := by decide +kernel
theorem dL_law_4 : decode cL_law 4 = .ok (.invokespecial 91, 3) := by decide +kernel
theorem dL_law_7 : decode cL_law 7 = .ok (.astore_n 1, 1) := by decide +kernel
theorem dL_law_8 : decode cL_law 8 = .ok (.new 10, 3) := by decide +kernel
theorem dL_law_11 : decode cL_law 11 = .ok (.dup, 1) := by decide +kernel
theorem dL_law_12 : decode cL_law 12 = .ok (.invokespecial 91, 3) := by decide +kernel
theorem dL_law_15 : decode cL_law 15 = .ok (.astore_n 2, 1) := by decide +kernel
theorem dL_law_16 : decode cL_law 16 = .ok (.aload_n 1, 1) := by decide +kernel
theorem dL_law_17 : decode cL_law 17 = .ok (.invokevirtual 29, 3) := by decide +kernel
theorem dL_law_20 : decode cL_law 20 = .ok (.bipush (-5), 2) := by decide +kernel
theorem dL_law_22 : decode cL_law 22 = .ok (.if_icmp .ne 39, 3) := by decide +kernel
theorem dL_law_25 : decode cL_law 25 = .ok (.aload_n 1, 1) := by decide +kernel
theorem dL_law_26 : decode cL_law 26 = .ok (.invokevirtual 36, 3) := by decide +kernel
theorem dL_law_29 : decode cL_law 29 = .ok (.bipush (-5), 2) := by decide +kernel
theorem dL_law_31 : decode cL_law 31 = .ok (.if_icmp .ne 30, 3) := by decide +kernel
theorem dL_law_34 : decode cL_law 34 = .ok (.aload_n 1, 1) := by decide +kernel
theorem dL_law_35 : decode cL_law 35 = .ok (.invokevirtual 46, 3) := by decide +kernel
theorem dL_law_38 : decode cL_law 38 = .ok (.ifCond .ne 23, 3) := by decide +kernel
theorem dL_law_41 : decode cL_law 41 = .ok (.aload_n 1, 1) := by decide +kernel
theorem dL_law_42 : decode cL_law 42 = .ok (.invokevirtual 49, 3) := by decide +kernel
theorem dL_law_45 : decode cL_law 45 = .ok (.bipush (-100), 2) := by decide +kernel
theorem dL_law_47 : decode cL_law 47 = .ok (.if_icmp .ne 14, 3) := by decide +kernel
theorem dL_law_50 : decode cL_law 50 = .ok (.aload_n 1, 1) := by decide +kernel
theorem dL_law_51 : decode cL_law 51 = .ok (.invokestatic 92, 3) := by decide +kernel
theorem dL_law_54 : decode cL_law 54 = .ok (.ifCond .eq 7, 3) := by decide +kernel
theorem dL_law_57 : decode cL_law 57 = .ok (.iconst 1, 1) := by decide +kernel
theorem dL_law_58 : decode cL_law 58 = .ok (.goto 4, 3) := by decide +kernel
theorem dL_law_61 : decode cL_law 61 = .ok (.iconst 0, 1) := by decide +kernel
theorem dL_law_62 : decode cL_law 62 = .ok (.istore_n 3, 1) := by decide +kernel
theorem dL_law_63 : decode cL_law 63 = .ok (.iconst 0, 1) := by decide +kernel
theorem dL_law_64 : decode cL_law 64 = .ok (.istore 4, 2) := by decide +kernel
theorem dL_law_66 : decode cL_law 66 = .ok (.iload 4, 2) := by decide +kernel
theorem dL_law_68 : decode cL_law 68 = .ok (.bipush 44, 2) := by decide +kernel
theorem dL_law_70 : decode cL_law 70 = .ok (.if_icmp .ge 98, 3) := by decide +kernel
theorem dL_law_73 : decode cL_law 73 = .ok (.iload_n 3, 1) := by decide +kernel
theorem dL_law_74 : decode cL_law 74 = .ok (.ifCond .eq 94, 3) := by decide +kernel
theorem dL_law_77 : decode cL_law 77 = .ok (.aload_n 0, 1) := by decide +kernel
theorem dL_law_78 : decode cL_law 78 = .ok (.iload 4, 2) := by decide +kernel
theorem dL_law_80 : decode cL_law 80 = .ok (.invokestatic 98, 3) := by decide +kernel
theorem dL_law_83 : decode cL_law 83 = .ok (.istore 5, 2) := by decide +kernel
theorem dL_law_85 : decode cL_law 85 = .ok (.aload_n 1, 1) := by decide +kernel
theorem dL_law_86 : decode cL_law 86 = .ok (.iload 5, 2) := by decide +kernel
theorem dL_law_88 : decode cL_law 88 = .ok (.invokestatic 102, 3) := by decide +kernel
theorem dL_law_91 : decode cL_law 91 = .ok (.istore 6, 2) := by decide +kernel
theorem dL_law_93 : decode cL_law 93 = .ok (.iload 4, 2) := by decide +kernel
theorem dL_law_95 : decode cL_law 95 = .ok (.iconst 3, 1) := by decide +kernel
theorem dL_law_96 : decode cL_law 96 = .ok (.irem, 1) := by decide +kernel
theorem dL_law_97 : decode cL_law 97 = .ok (.ifCond .gt 15, 3) := by decide +kernel
theorem dL_law_100 : decode cL_law 100 = .ok (.aload_n 2, 1) := by decide +kernel
theorem dL_law_101 : decode cL_law 101 = .ok (.iload 5, 2) := by decide +kernel
theorem dL_law_103 : decode cL_law 103 = .ok (.ldc 106, 2) := by decide +kernel
theorem dL_law_105 : decode cL_law 105 = .ok (.irem, 1) := by decide +kernel
theorem dL_law_106 : decode cL_law 106 = .ok (.invokestatic 107, 3) := by decide +kernel
theorem dL_law_109 : decode cL_law 109 = .ok (.ifCond .eq 51, 3) := by decide +kernel
theorem dL_law_112 : decode cL_law 112 = .ok (.aload_n 2, 1) := by decide +kernel
theorem dL_law_113 : decode cL_law 113 = .ok (.iload 5, 2) := by decide +kernel
theorem dL_law_115 : decode cL_law 115 = .ok (.invokestatic 102, 3) := by decide +kernel
theorem dL_law_118 : decode cL_law 118 = .ok (.iload 6, 2) := by decide +kernel
theorem dL_law_120 : decode cL_law 120 = .ok (.if_icmp .ne 40, 3) := by decide +kernel
theorem dL_law_123 : decode cL_law 123 = .ok (.aload_n 1, 1) := by decide +kernel
theorem dL_law_124 : decode cL_law 124 = .ok (.aload_n 2, 1) := by decide +kernel
theorem dL_law_125 : decode cL_law 125 = .ok (.invokestatic 111, 3) := by decide +kernel
theorem dL_law_128 : decode cL_law 128 = .ok (.ifCond .eq 32, 3) := by decide +kernel
theorem dL_law_131 : decode cL_law 131 = .ok (.iload 4, 2) := by decide +kernel
theorem dL_law_133 : decode cL_law 133 = .ok (.iconst 5, 1) := by decide +kernel
theorem dL_law_134 : decode cL_law 134 = .ok (.irem, 1) := by decide +kernel
theorem dL_law_135 : decode cL_law 135 = .ok (.ifCond .gt 21, 3) := by decide +kernel
theorem dL_law_138 : decode cL_law 138 = .ok (.iload 4, 2) := by decide +kernel
theorem dL_law_140 : decode cL_law 140 = .ok (.iconst 2, 1) := by decide +kernel
theorem dL_law_141 : decode cL_law 141 = .ok (.irem, 1) := by decide +kernel
theorem dL_law_142 : decode cL_law 142 = .ok (.ifCond .ne 7, 3) := by decide +kernel
theorem dL_law_145 : decode cL_law 145 = .ok (.aload_n 1, 1) := by decide +kernel
theorem dL_law_146 : decode cL_law 146 = .ok (.goto 4, 3) := by decide +kernel
theorem dL_law_149 : decode cL_law 149 = .ok (.aload_n 2, 1) := by decide +kernel
theorem dL_law_150 : decode cL_law 150 = .ok (.invokestatic 92, 3) := by decide +kernel
theorem dL_law_153 : decode cL_law 153 = .ok (.ifCond .eq 7, 3) := by decide +kernel
theorem dL_law_156 : decode cL_law 156 = .ok (.iconst 1, 1) := by decide +kernel
theorem dL_law_157 : decode cL_law 157 = .ok (.goto 4, 3) := by decide +kernel
theorem dL_law_160 : decode cL_law 160 = .ok (.iconst 0, 1) := by decide +kernel
theorem dL_law_161 : decode cL_law 161 = .ok (.istore_n 3, 1) := by decide +kernel
theorem dL_law_162 : decode cL_law 162 = .ok (.iinc 4 1, 3) := by decide +kernel
theorem dL_law_165 : decode cL_law 165 = .ok (.goto (-99), 3) := by decide +kernel
theorem dL_law_168 : decode cL_law 168 = .ok (.iconst 2, 1) := by decide +kernel
theorem dL_law_169 : decode cL_law 169 = .ok (.aload_n 0, 1) := by decide +kernel
theorem dL_law_170 : decode cL_law 170 = .ok (.bipush 44, 2) := by decide +kernel
theorem dL_law_172 : decode cL_law 172 = .ok (.invokestatic 98, 3) := by decide +kernel
theorem dL_law_175 : decode cL_law 175 = .ok (.bipush 18, 2) := by decide +kernel
theorem dL_law_177 : decode cL_law 177 = .ok (.irem, 1) := by decide +kernel
theorem dL_law_178 : decode cL_law 178 = .ok (.iadd, 1) := by decide +kernel
theorem dL_law_179 : decode cL_law 179 = .ok (.istore 4, 2) := by decide +kernel
theorem dL_law_181 : decode cL_law 181 = .ok (.iconst 0, 1) := by decide +kernel
theorem dL_law_182 : decode cL_law 182 = .ok (.istore 5, 2) := by decide +kernel
theorem dL_law_184 : decode cL_law 184 = .ok (.iconst 0, 1) := by decide +kernel
theorem dL_law_185 : decode cL_law 185 = .ok (.istore 6, 2) := by decide +kernel
theorem dL_law_187 : decode cL_law 187 = .ok (.iload 6, 2) := by decide +kernel
theorem dL_law_189 : decode cL_law 189 = .ok (.iload 4, 2) := by decide +kernel
theorem dL_law_191 : decode cL_law 191 = .ok (.if_icmp .ge 23, 3) := by decide +kernel
theorem dL_law_194 : decode cL_law 194 = .ok (.iload_n 3, 1) := by decide +kernel
theorem dL_law_195 : decode cL_law 195 = .ok (.ifCond .eq 19, 3) := by decide +kernel
theorem dL_law_198 : decode cL_law 198 = .ok (.iload 5, 2) := by decide +kernel
theorem dL_law_200 : decode cL_law 200 = .ok (.aload_n 1, 1) := by decide +kernel
theorem dL_law_201 : decode cL_law 201 = .ok (.iconst 1, 1) := by decide +kernel
theorem dL_law_202 : decode cL_law 202 = .ok (.invokevirtual 52, 3) := by decide +kernel
theorem dL_law_205 : decode cL_law 205 = .ok (.iadd, 1) := by decide +kernel
theorem dL_law_206 : decode cL_law 206 = .ok (.istore 5, 2) := by decide +kernel
theorem dL_law_208 : decode cL_law 208 = .ok (.iinc 6 1, 3) := by decide +kernel
theorem dL_law_211 : decode cL_law 211 = .ok (.goto (-24), 3) := by decide +kernel
theorem dL_law_214 : decode cL_law 214 = .ok (.iload_n 3, 1) := by decide +kernel
theorem dL_law_215 : decode cL_law 215 = .ok (.ifCond .eq 18, 3) := by decide +kernel
theorem dL_law_218 : decode cL_law 218 = .ok (.aload_n 2, 1) := by decide +kernel
theorem dL_law_219 : decode cL_law 219 = .ok (.iload 4, 2) := by decide +kernel
theorem dL_law_221 : decode cL_law 221 = .ok (.invokevirtual 52, 3) := by decide +kernel
theorem dL_law_224 : decode cL_law 224 = .ok (.iload 5, 2) := by decide +kernel
theorem dL_law_226 : decode cL_law 226 = .ok (.if_icmp .ne 7, 3) := by decide +kernel
theorem dL_law_229 : decode cL_law 229 = .ok (.iconst 1, 1) := by decide +kernel
theorem dL_law_230 : decode cL_law 230 = .ok (.goto 4, 3) := by decide +kernel
theorem dL_law_233 : decode cL_law 233 = .ok (.iconst 0, 1) := by decide +kernel
theorem dL_law_234 : decode cL_law 234 = .ok (.istore_n 3, 1) := by decide +kernel
theorem dL_law_235 : decode cL_law 235 = .ok (.iconst 0, 1) := by decide +kernel
theorem dL_law_236 : decode cL_law 236 = .ok (.istore 6, 2) := by decide +kernel
theorem dL_law_238 : decode cL_law 238 = .ok (.iload 6, 2) := by decide +kernel
theorem dL_law_240 : decode cL_law 240 = .ok (.iconst 4, 1) := by decide +kernel
theorem dL_law_241 : decode cL_law 241 = .ok (.if_icmp .ge 70, 3) := by decide +kernel
theorem dL_law_244 : decode cL_law 244 = .ok (.iload_n 3, 1) := by decide +kernel
theorem dL_law_245 : decode cL_law 245 = .ok (.ifCond .eq 66, 3) := by decide +kernel
theorem dL_law_248 : decode cL_law 248 = .ok (.aload_n 1, 1) := by decide +kernel
theorem dL_law_249 : decode cL_law 249 = .ok (.iload 6, 2) := by decide +kernel
theorem dL_law_251 : decode cL_law 251 = .ok (.iconst 0, 1) := by decide +kernel
theorem dL_law_252 : decode cL_law 252 = .ok (.invokevirtual 74, 3) := by decide +kernel
theorem dL_law_255 : decode cL_law 255 = .ok (.aload_n 2, 1) := by decide +kernel
theorem dL_law_256 : decode cL_law 256 = .ok (.iload 6, 2) := by decide +kernel
theorem dL_law_258 : decode cL_law 258 = .ok (.iconst 0, 1) := by decide +kernel
theorem dL_law_259 : decode cL_law 259 = .ok (.invokevirtual 74, 3) := by decide +kernel
theorem dL_law_262 : decode cL_law 262 = .ok (.if_icmp .ne 41, 3) := by decide +kernel
theorem dL_law_265 : decode cL_law 265 = .ok (.aload_n 1, 1) := by decide +kernel
theorem dL_law_266 : decode cL_law 266 = .ok (.iload 6, 2) := by decide +kernel
theorem dL_law_268 : decode cL_law 268 = .ok (.iconst 1, 1) := by decide +kernel
theorem dL_law_269 : decode cL_law 269 = .ok (.invokevirtual 74, 3) := by decide +kernel
theorem dL_law_272 : decode cL_law 272 = .ok (.aload_n 2, 1) := by decide +kernel
theorem dL_law_273 : decode cL_law 273 = .ok (.iload 6, 2) := by decide +kernel
theorem dL_law_275 : decode cL_law 275 = .ok (.iconst 1, 1) := by decide +kernel
theorem dL_law_276 : decode cL_law 276 = .ok (.invokevirtual 74, 3) := by decide +kernel
theorem dL_law_279 : decode cL_law 279 = .ok (.if_icmp .ne 24, 3) := by decide +kernel
theorem dL_law_282 : decode cL_law 282 = .ok (.aload_n 1, 1) := by decide +kernel
theorem dL_law_283 : decode cL_law 283 = .ok (.iload 6, 2) := by decide +kernel
theorem dL_law_285 : decode cL_law 285 = .ok (.iconst 4, 1) := by decide +kernel
theorem dL_law_286 : decode cL_law 286 = .ok (.invokevirtual 71, 3) := by decide +kernel
theorem dL_law_289 : decode cL_law 289 = .ok (.aload_n 2, 1) := by decide +kernel
theorem dL_law_290 : decode cL_law 290 = .ok (.iload 6, 2) := by decide +kernel
theorem dL_law_292 : decode cL_law 292 = .ok (.iconst 4, 1) := by decide +kernel
theorem dL_law_293 : decode cL_law 293 = .ok (.invokevirtual 71, 3) := by decide +kernel
theorem dL_law_296 : decode cL_law 296 = .ok (.if_icmp .ne 7, 3) := by decide +kernel
theorem dL_law_299 : decode cL_law 299 = .ok (.iconst 1, 1) := by decide +kernel
theorem dL_law_300 : decode cL_law 300 = .ok (.goto 4, 3) := by decide +kernel
theorem dL_law_303 : decode cL_law 303 = .ok (.iconst 0, 1) := by decide +kernel
theorem dL_law_304 : decode cL_law 304 = .ok (.istore_n 3, 1) := by decide +kernel
theorem dL_law_305 : decode cL_law 305 = .ok (.iinc 6 1, 3) := by decide +kernel
theorem dL_law_308 : decode cL_law 308 = .ok (.goto (-70), 3) := by decide +kernel
theorem dL_law_311 : decode cL_law 311 = .ok (.iload_n 3, 1) := by decide +kernel
theorem dL_law_312 : decode cL_law 312 = .ok (.ifCond .eq 62, 3) := by decide +kernel
theorem dL_law_315 : decode cL_law 315 = .ok (.aload_n 1, 1) := by decide +kernel
theorem dL_law_316 : decode cL_law 316 = .ok (.iconst 0, 1) := by decide +kernel
theorem dL_law_317 : decode cL_law 317 = .ok (.invokevirtual 80, 3) := by decide +kernel
theorem dL_law_320 : decode cL_law 320 = .ok (.aload_n 2, 1) := by decide +kernel
theorem dL_law_321 : decode cL_law 321 = .ok (.iconst 0, 1) := by decide +kernel
theorem dL_law_322 : decode cL_law 322 = .ok (.invokevirtual 80, 3) := by decide +kernel
theorem dL_law_325 : decode cL_law 325 = .ok (.if_icmp .ne 49, 3) := by decide +kernel
theorem dL_law_328 : decode cL_law 328 = .ok (.aload_n 1, 1) := by decide +kernel
theorem dL_law_329 : decode cL_law 329 = .ok (.iconst 4, 1) := by decide +kernel
theorem dL_law_330 : decode cL_law 330 = .ok (.invokevirtual 80, 3) := by decide +kernel
theorem dL_law_333 : decode cL_law 333 = .ok (.aload_n 2, 1) := by decide +kernel
theorem dL_law_334 : decode cL_law 334 = .ok (.iconst 4, 1) := by decide +kernel
theorem dL_law_335 : decode cL_law 335 = .ok (.invokevirtual 80, 3) := by decide +kernel
theorem dL_law_338 : decode cL_law 338 = .ok (.if_icmp .ne 36, 3) := by decide +kernel
theorem dL_law_341 : decode cL_law 341 = .ok (.aload_n 1, 1) := by decide +kernel
theorem dL_law_342 : decode cL_law 342 = .ok (.bipush 7, 2) := by decide +kernel
theorem dL_law_344 : decode cL_law 344 = .ok (.invokevirtual 80, 3) := by decide +kernel
theorem dL_law_347 : decode cL_law 347 = .ok (.aload_n 2, 1) := by decide +kernel
theorem dL_law_348 : decode cL_law 348 = .ok (.bipush 7, 2) := by decide +kernel
theorem dL_law_350 : decode cL_law 350 = .ok (.invokevirtual 80, 3) := by decide +kernel
theorem dL_law_353 : decode cL_law 353 = .ok (.if_icmp .ne 21, 3) := by decide +kernel
theorem dL_law_356 : decode cL_law 356 = .ok (.aload_n 1, 1) := by decide +kernel
theorem dL_law_357 : decode cL_law 357 = .ok (.invokestatic 92, 3) := by decide +kernel
theorem dL_law_360 : decode cL_law 360 = .ok (.ifCond .eq 14, 3) := by decide +kernel
theorem dL_law_363 : decode cL_law 363 = .ok (.aload_n 2, 1) := by decide +kernel
theorem dL_law_364 : decode cL_law 364 = .ok (.invokestatic 92, 3) := by decide +kernel
theorem dL_law_367 : decode cL_law 367 = .ok (.ifCond .eq 7, 3) := by decide +kernel
theorem dL_law_370 : decode cL_law 370 = .ok (.iconst 1, 1) := by decide +kernel
theorem dL_law_371 : decode cL_law 371 = .ok (.goto 4, 3) := by decide +kernel
theorem dL_law_374 : decode cL_law 374 = .ok (.iconst 0, 1) := by decide +kernel
theorem dL_law_375 : decode cL_law 375 = .ok (.ireturn, 1) := by decide +kernel
