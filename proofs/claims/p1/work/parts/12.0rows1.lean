theorem dL_law_744 : decode code 744 = .ok (.iconst 2, 1) := by decide +kernel
theorem dL_law_745 : decode code 745 = .ok (.iadd, 1) := by decide +kernel
theorem dL_law_746 : decode code 746 = .ok (.iaload, 1) := by decide +kernel
theorem dL_law_747 : decode code 747 = .ok (.invokevirtual 73, 3) := by decide +kernel
theorem dL_law_750 : decode code 750 = .ok (.aload_n 2, 1) := by decide +kernel
theorem dL_law_751 : decode code 751 = .ok (.aload_n 0, 1) := by decide +kernel
theorem dL_law_752 : decode code 752 = .ok (.iload_n 3, 1) := by decide +kernel
theorem dL_law_753 : decode code 753 = .ok (.iconst 1, 1) := by decide +kernel
theorem dL_law_754 : decode code 754 = .ok (.iadd, 1) := by decide +kernel
theorem dL_law_755 : decode code 755 = .ok (.iaload, 1) := by decide +kernel
theorem dL_law_756 : decode code 756 = .ok (.aload_n 0, 1) := by decide +kernel
theorem dL_law_757 : decode code 757 = .ok (.iload_n 3, 1) := by decide +kernel
theorem dL_law_758 : decode code 758 = .ok (.iconst 2, 1) := by decide +kernel
theorem dL_law_759 : decode code 759 = .ok (.iadd, 1) := by decide +kernel
theorem dL_law_760 : decode code 760 = .ok (.iaload, 1) := by decide +kernel
theorem dL_law_761 : decode code 761 = .ok (.invokevirtual 76, 3) := by decide +kernel
theorem dL_law_764 : decode code 764 = .ok (.if_icmp .eq 1242, 3) := by decide +kernel
theorem dL_law_769 : decode code 769 = .ok (.aload_n 1, 1) := by decide +kernel
theorem dL_law_770 : decode code 770 = .ok (.aload_n 0, 1) := by decide +kernel
theorem dL_law_771 : decode code 771 = .ok (.iload_n 3, 1) := by decide +kernel
theorem dL_law_772 : decode code 772 = .ok (.iconst 1, 1) := by decide +kernel
theorem dL_law_773 : decode code 773 = .ok (.iadd, 1) := by decide +kernel
theorem dL_law_774 : decode code 774 = .ok (.iaload, 1) := by decide +kernel
theorem dL_law_775 : decode code 775 = .ok (.aload_n 0, 1) := by decide +kernel
theorem dL_law_776 : decode code 776 = .ok (.iload_n 3, 1) := by decide +kernel
theorem dL_law_777 : decode code 777 = .ok (.iconst 2, 1) := by decide +kernel
theorem dL_law_778 : decode code 778 = .ok (.iadd, 1) := by decide +kernel
theorem dL_law_779 : decode code 779 = .ok (.iaload, 1) := by decide +kernel
theorem dL_law_780 : decode code 780 = .ok (.invokevirtual 77, 3) := by decide +kernel
theorem dL_law_783 : decode code 783 = .ok (.aload_n 2, 1) := by decide +kernel
theorem dL_law_784 : decode code 784 = .ok (.aload_n 0, 1) := by decide +kernel
theorem dL_law_785 : decode code 785 = .ok (.iload_n 3, 1) := by decide +kernel
theorem dL_law_786 : decode code 786 = .ok (.iconst 1, 1) := by decide +kernel
theorem dL_law_787 : decode code 787 = .ok (.iadd, 1) := by decide +kernel
theorem dL_law_788 : decode code 788 = .ok (.iaload, 1) := by decide +kernel
theorem dL_law_789 : decode code 789 = .ok (.aload_n 0, 1) := by decide +kernel
theorem dL_law_790 : decode code 790 = .ok (.iload_n 3, 1) := by decide +kernel
theorem dL_law_791 : decode code 791 = .ok (.iconst 2, 1) := by decide +kernel
theorem dL_law_792 : decode code 792 = .ok (.iadd, 1) := by decide +kernel
theorem dL_law_793 : decode code 793 = .ok (.iaload, 1) := by decide +kernel
theorem dL_law_794 : decode code 794 = .ok (.invokevirtual 80, 3) := by decide +kernel
theorem dL_law_797 : decode code 797 = .ok (.if_icmp .eq 1209, 3) := by decide +kernel
theorem dL_law_802 : decode code 802 = .ok (.aload_n 1, 1) := by decide +kernel
theorem dL_law_803 : decode code 803 = .ok (.aload_n 0, 1) := by decide +kernel
theorem dL_law_804 : decode code 804 = .ok (.iload_n 3, 1) := by decide +kernel
theorem dL_law_805 : decode code 805 = .ok (.iconst 1, 1) := by decide +kernel
theorem dL_law_806 : decode code 806 = .ok (.iadd, 1) := by decide +kernel
theorem dL_law_807 : decode code 807 = .ok (.iaload, 1) := by decide +kernel
theorem dL_law_808 : decode code 808 = .ok (.invokevirtual 81, 3) := by decide +kernel
theorem dL_law_811 : decode code 811 = .ok (.aload_n 2, 1) := by decide +kernel
theorem dL_law_812 : decode code 812 = .ok (.aload_n 0, 1) := by decide +kernel
theorem dL_law_813 : decode code 813 = .ok (.iload_n 3, 1) := by decide +kernel
theorem dL_law_814 : decode code 814 = .ok (.iconst 1, 1) := by decide +kernel
theorem dL_law_815 : decode code 815 = .ok (.iadd, 1) := by decide +kernel
theorem dL_law_816 : decode code 816 = .ok (.iaload, 1) := by decide +kernel
theorem dL_law_817 : decode code 817 = .ok (.invokevirtual 84, 3) := by decide +kernel
theorem dL_law_820 : decode code 820 = .ok (.if_icmp .eq 1186, 3) := by decide +kernel
theorem dL_law_825 : decode code 825 = .ok (.aload_n 1, 1) := by decide +kernel
theorem dL_law_826 : decode code 826 = .ok (.aload_n 0, 1) := by decide +kernel
theorem dL_law_827 : decode code 827 = .ok (.iload_n 3, 1) := by decide +kernel
theorem dL_law_828 : decode code 828 = .ok (.iconst 1, 1) := by decide +kernel
theorem dL_law_829 : decode code 829 = .ok (.iadd, 1) := by decide +kernel
theorem dL_law_830 : decode code 830 = .ok (.iaload, 1) := by decide +kernel
theorem dL_law_831 : decode code 831 = .ok (.aload_n 0, 1) := by decide +kernel
theorem dL_law_832 : decode code 832 = .ok (.iload_n 3, 1) := by decide +kernel
theorem dL_law_833 : decode code 833 = .ok (.iconst 2, 1) := by decide +kernel
theorem dL_law_834 : decode code 834 = .ok (.iadd, 1) := by decide +kernel
theorem dL_law_835 : decode code 835 = .ok (.iaload, 1) := by decide +kernel
theorem dL_law_836 : decode code 836 = .ok (.invokevirtual 85, 3) := by decide +kernel
theorem dL_law_839 : decode code 839 = .ok (.aload_n 2, 1) := by decide +kernel
theorem dL_law_840 : decode code 840 = .ok (.aload_n 0, 1) := by decide +kernel
theorem dL_law_841 : decode code 841 = .ok (.iload_n 3, 1) := by decide +kernel
theorem dL_law_842 : decode code 842 = .ok (.iconst 1, 1) := by decide +kernel
theorem dL_law_843 : decode code 843 = .ok (.iadd, 1) := by decide +kernel
theorem dL_law_844 : decode code 844 = .ok (.iaload, 1) := by decide +kernel
theorem dL_law_845 : decode code 845 = .ok (.aload_n 0, 1) := by decide +kernel
theorem dL_law_846 : decode code 846 = .ok (.iload_n 3, 1) := by decide +kernel
theorem dL_law_847 : decode code 847 = .ok (.iconst 2, 1) := by decide +kernel
theorem dL_law_848 : decode code 848 = .ok (.iadd, 1) := by decide +kernel
theorem dL_law_849 : decode code 849 = .ok (.iaload, 1) := by decide +kernel
theorem dL_law_850 : decode code 850 = .ok (.invokevirtual 88, 3) := by decide +kernel
theorem dL_law_853 : decode code 853 = .ok (.if_icmp .eq 1153, 3) := by decide +kernel
theorem dL_law_858 : decode code 858 = .ok (.aload_n 1, 1) := by decide +kernel
theorem dL_law_859 : decode code 859 = .ok (.aload_n 0, 1) := by decide +kernel
theorem dL_law_860 : decode code 860 = .ok (.iload_n 3, 1) := by decide +kernel
theorem dL_law_861 : decode code 861 = .ok (.iconst 1, 1) := by decide +kernel
theorem dL_law_862 : decode code 862 = .ok (.iadd, 1) := by decide +kernel
theorem dL_law_863 : decode code 863 = .ok (.iaload, 1) := by decide +kernel
theorem dL_law_864 : decode code 864 = .ok (.invokevirtual 89, 3) := by decide +kernel
theorem dL_law_867 : decode code 867 = .ok (.aload_n 2, 1) := by decide +kernel
theorem dL_law_868 : decode code 868 = .ok (.aload_n 0, 1) := by decide +kernel
theorem dL_law_869 : decode code 869 = .ok (.iload_n 3, 1) := by decide +kernel
theorem dL_law_870 : decode code 870 = .ok (.iconst 1, 1) := by decide +kernel
theorem dL_law_871 : decode code 871 = .ok (.iadd, 1) := by decide +kernel
theorem dL_law_872 : decode code 872 = .ok (.iaload, 1) := by decide +kernel
theorem dL_law_873 : decode code 873 = .ok (.invokevirtual 92, 3) := by decide +kernel
theorem dL_law_876 : decode code 876 = .ok (.if_icmp .eq 1130, 3) := by decide +kernel
theorem dL_law_881 : decode code 881 = .ok (.aload_n 1, 1) := by decide +kernel
theorem dL_law_882 : decode code 882 = .ok (.aload_n 0, 1) := by decide +kernel
theorem dL_law_883 : decode code 883 = .ok (.iload_n 3, 1) := by decide +kernel
theorem dL_law_884 : decode code 884 = .ok (.iconst 1, 1) := by decide +kernel
theorem dL_law_885 : decode code 885 = .ok (.iadd, 1) := by decide +kernel
theorem dL_law_886 : decode code 886 = .ok (.iaload, 1) := by decide +kernel
theorem dL_law_887 : decode code 887 = .ok (.invokevirtual 93, 3) := by decide +kernel
theorem dL_law_890 : decode code 890 = .ok (.aload_n 2, 1) := by decide +kernel
theorem dL_law_891 : decode code 891 = .ok (.aload_n 0, 1) := by decide +kernel
theorem dL_law_892 : decode code 892 = .ok (.iload_n 3, 1) := by decide +kernel
theorem dL_law_893 : decode code 893 = .ok (.iconst 1, 1) := by decide +kernel
theorem dL_law_894 : decode code 894 = .ok (.iadd, 1) := by decide +kernel
theorem dL_law_895 : decode code 895 = .ok (.iaload, 1) := by decide +kernel
theorem dL_law_896 : decode code 896 = .ok (.invokevirtual 96, 3) := by decide +kernel
theorem dL_law_899 : decode code 899 = .ok (.if_icmp .eq 1107, 3) := by decide +kernel
theorem dL_law_904 : decode code 904 = .ok (.aload_n 1, 1) := by decide +kernel
theorem dL_law_905 : decode code 905 = .ok (.invokevirtual 97, 3) := by decide +kernel
theorem dL_law_908 : decode code 908 = .ok (.aload_n 2, 1) := by decide +kernel
theorem dL_law_909 : decode code 909 = .ok (.invokevirtual 100, 3) := by decide +kernel
theorem dL_law_912 : decode code 912 = .ok (.if_icmp .eq 1094, 3) := by decide +kernel
theorem dL_law_917 : decode code 917 = .ok (.aload_n 1, 1) := by decide +kernel
theorem dL_law_918 : decode code 918 = .ok (.invokevirtual 101, 3) := by decide +kernel
theorem dL_law_921 : decode code 921 = .ok (.aload_n 2, 1) := by decide +kernel
theorem dL_law_922 : decode code 922 = .ok (.invokevirtual 104, 3) := by decide +kernel
theorem dL_law_925 : decode code 925 = .ok (.if_icmp .eq 1081, 3) := by decide +kernel
theorem dL_law_930 : decode code 930 = .ok (.aload_n 1, 1) := by decide +kernel
theorem dL_law_931 : decode code 931 = .ok (.invokevirtual 105, 3) := by decide +kernel
theorem dL_law_934 : decode code 934 = .ok (.aload_n 2, 1) := by decide +kernel
theorem dL_law_935 : decode code 935 = .ok (.invokevirtual 108, 3) := by decide +kernel
theorem dL_law_938 : decode code 938 = .ok (.if_icmp .eq 1068, 3) := by decide +kernel
theorem dL_law_943 : decode code 943 = .ok (.aload_n 1, 1) := by decide +kernel
theorem dL_law_944 : decode code 944 = .ok (.invokevirtual 109, 3) := by decide +kernel
theorem dL_law_947 : decode code 947 = .ok (.aload_n 2, 1) := by decide +kernel
theorem dL_law_948 : decode code 948 = .ok (.invokevirtual 112, 3) := by decide +kernel
theorem dL_law_951 : decode code 951 = .ok (.if_icmp .eq 1055, 3) := by decide +kernel
theorem dL_law_956 : decode code 956 = .ok (.aload_n 1, 1) := by decide +kernel
theorem dL_law_957 : decode code 957 = .ok (.invokevirtual 113, 3) := by decide +kernel
theorem dL_law_960 : decode code 960 = .ok (.aload_n 2, 1) := by decide +kernel
theorem dL_law_961 : decode code 961 = .ok (.invokevirtual 116, 3) := by decide +kernel
theorem dL_law_964 : decode code 964 = .ok (.if_icmp .eq 1042, 3) := by decide +kernel
theorem dL_law_969 : decode code 969 = .ok (.aload_n 1, 1) := by decide +kernel
theorem dL_law_970 : decode code 970 = .ok (.aload_n 0, 1) := by decide +kernel
theorem dL_law_971 : decode code 971 = .ok (.iload_n 3, 1) := by decide +kernel
theorem dL_law_972 : decode code 972 = .ok (.iconst 1, 1) := by decide +kernel
theorem dL_law_973 : decode code 973 = .ok (.iadd, 1) := by decide +kernel
theorem dL_law_974 : decode code 974 = .ok (.iaload, 1) := by decide +kernel
theorem dL_law_975 : decode code 975 = .ok (.invokevirtual 117, 3) := by decide +kernel
theorem dL_law_978 : decode code 978 = .ok (.aload_n 2, 1) := by decide +kernel
theorem dL_law_979 : decode code 979 = .ok (.aload_n 0, 1) := by decide +kernel
theorem dL_law_980 : decode code 980 = .ok (.iload_n 3, 1) := by decide +kernel
theorem dL_law_981 : decode code 981 = .ok (.iconst 1, 1) := by decide +kernel
theorem dL_law_982 : decode code 982 = .ok (.iadd, 1) := by decide +kernel
theorem dL_law_983 : decode code 983 = .ok (.iaload, 1) := by decide +kernel
theorem dL_law_984 : decode code 984 = .ok (.invokevirtual 120, 3) := by decide +kernel
theorem dL_law_987 : decode code 987 = .ok (.if_icmp .eq 1019, 3) := by decide +kernel
theorem dL_law_992 : decode code 992 = .ok (.aload_n 1, 1) := by decide +kernel
theorem dL_law_993 : decode code 993 = .ok (.invokevirtual 121, 3) := by decide +kernel
theorem dL_law_996 : decode code 996 = .ok (.aload_n 2, 1) := by decide +kernel
theorem dL_law_997 : decode code 997 = .ok (.invokevirtual 124, 3) := by decide +kernel
theorem dL_law_1000 : decode code 1000 = .ok (.if_icmp .eq 1006, 3) := by decide +kernel
theorem dL_law_1005 : decode code 1005 = .ok (.aload_n 1, 1) := by decide +kernel
theorem dL_law_1006 : decode code 1006 = .ok (.aload_n 0, 1) := by decide +kernel
theorem dL_law_1007 : decode code 1007 = .ok (.iload_n 3, 1) := by decide +kernel
theorem dL_law_1008 : decode code 1008 = .ok (.iconst 1, 1) := by decide +kernel
theorem dL_law_1009 : decode code 1009 = .ok (.iadd, 1) := by decide +kernel
theorem dL_law_1010 : decode code 1010 = .ok (.iaload, 1) := by decide +kernel
theorem dL_law_1011 : decode code 1011 = .ok (.invokevirtual 125, 3) := by decide +kernel
theorem dL_law_1014 : decode code 1014 = .ok (.aload_n 2, 1) := by decide +kernel
theorem dL_law_1015 : decode code 1015 = .ok (.aload_n 0, 1) := by decide +kernel
theorem dL_law_1016 : decode code 1016 = .ok (.iload_n 3, 1) := by decide +kernel
theorem dL_law_1017 : decode code 1017 = .ok (.iconst 1, 1) := by decide +kernel
theorem dL_law_1018 : decode code 1018 = .ok (.iadd, 1) := by decide +kernel
theorem dL_law_1019 : decode code 1019 = .ok (.iaload, 1) := by decide +kernel
theorem dL_law_1020 : decode code 1020 = .ok (.invokevirtual 128, 3) := by decide +kernel
theorem dL_law_1023 : decode code 1023 = .ok (.if_icmp .eq 983, 3) := by decide +kernel
theorem dL_law_1028 : decode code 1028 = .ok (.aload_n 1, 1) := by decide +kernel
theorem dL_law_1029 : decode code 1029 = .ok (.aload_n 0, 1) := by decide +kernel
theorem dL_law_1030 : decode code 1030 = .ok (.iload_n 3, 1) := by decide +kernel
theorem dL_law_1031 : decode code 1031 = .ok (.iconst 1, 1) := by decide +kernel
theorem dL_law_1032 : decode code 1032 = .ok (.iadd, 1) := by decide +kernel
theorem dL_law_1033 : decode code 1033 = .ok (.iaload, 1) := by decide +kernel
theorem dL_law_1034 : decode code 1034 = .ok (.invokevirtual 129, 3) := by decide +kernel
theorem dL_law_1037 : decode code 1037 = .ok (.aload_n 2, 1) := by decide +kernel
theorem dL_law_1038 : decode code 1038 = .ok (.aload_n 0, 1) := by decide +kernel
theorem dL_law_1039 : decode code 1039 = .ok (.iload_n 3, 1) := by decide +kernel
theorem dL_law_1040 : decode code 1040 = .ok (.iconst 1, 1) := by decide +kernel
theorem dL_law_1041 : decode code 1041 = .ok (.iadd, 1) := by decide +kernel
theorem dL_law_1042 : decode code 1042 = .ok (.iaload, 1) := by decide +kernel
theorem dL_law_1043 : decode code 1043 = .ok (.invokevirtual 132, 3) := by decide +kernel
theorem dL_law_1046 : decode code 1046 = .ok (.if_icmp .eq 960, 3) := by decide +kernel
theorem dL_law_1051 : decode code 1051 = .ok (.aload_n 1, 1) := by decide +kernel
theorem dL_law_1052 : decode code 1052 = .ok (.aload_n 0, 1) := by decide +kernel
theorem dL_law_1053 : decode code 1053 = .ok (.iload_n 3, 1) := by decide +kernel
theorem dL_law_1054 : decode code 1054 = .ok (.iconst 1, 1) := by decide +kernel
theorem dL_law_1055 : decode code 1055 = .ok (.iadd, 1) := by decide +kernel
theorem dL_law_1056 : decode code 1056 = .ok (.iaload, 1) := by decide +kernel
theorem dL_law_1057 : decode code 1057 = .ok (.invokevirtual 133, 3) := by decide +kernel
theorem dL_law_1060 : decode code 1060 = .ok (.aload_n 2, 1) := by decide +kernel
theorem dL_law_1061 : decode code 1061 = .ok (.aload_n 0, 1) := by decide +kernel
theorem dL_law_1062 : decode code 1062 = .ok (.iload_n 3, 1) := by decide +kernel
theorem dL_law_1063 : decode code 1063 = .ok (.iconst 1, 1) := by decide +kernel
theorem dL_law_1064 : decode code 1064 = .ok (.iadd, 1) := by decide +kernel
theorem dL_law_1065 : decode code 1065 = .ok (.iaload, 1) := by decide +kernel
theorem dL_law_1066 : decode code 1066 = .ok (.invokevirtual 136, 3) := by decide +kernel
theorem dL_law_1069 : decode code 1069 = .ok (.if_icmp .eq 937, 3) := by decide +kernel
theorem dL_law_1074 : decode code 1074 = .ok (.aload_n 1, 1) := by decide +kernel
theorem dL_law_1075 : decode code 1075 = .ok (.invokevirtual 137, 3) := by decide +kernel
theorem dL_law_1078 : decode code 1078 = .ok (.aload_n 2, 1) := by decide +kernel
theorem dL_law_1079 : decode code 1079 = .ok (.invokevirtual 140, 3) := by decide +kernel
theorem dL_law_1082 : decode code 1082 = .ok (.if_icmp .eq 924, 3) := by decide +kernel
theorem dL_law_1087 : decode code 1087 = .ok (.aload_n 1, 1) := by decide +kernel
theorem dL_law_1088 : decode code 1088 = .ok (.aload_n 0, 1) := by decide +kernel
theorem dL_law_1089 : decode code 1089 = .ok (.iload_n 3, 1) := by decide +kernel
theorem dL_law_1090 : decode code 1090 = .ok (.iconst 1, 1) := by decide +kernel
theorem dL_law_1091 : decode code 1091 = .ok (.iadd, 1) := by decide +kernel
theorem dL_law_1092 : decode code 1092 = .ok (.iaload, 1) := by decide +kernel
theorem dL_law_1093 : decode code 1093 = .ok (.invokevirtual 141, 3) := by decide +kernel
theorem dL_law_1096 : decode code 1096 = .ok (.aload_n 2, 1) := by decide +kernel
theorem dL_law_1097 : decode code 1097 = .ok (.aload_n 0, 1) := by decide +kernel
theorem dL_law_1098 : decode code 1098 = .ok (.iload_n 3, 1) := by decide +kernel
theorem dL_law_1099 : decode code 1099 = .ok (.iconst 1, 1) := by decide +kernel
theorem dL_law_1100 : decode code 1100 = .ok (.iadd, 1) := by decide +kernel
theorem dL_law_1101 : decode code 1101 = .ok (.iaload, 1) := by decide +kernel
theorem dL_law_1102 : decode code 1102 = .ok (.invokevirtual 144, 3) := by decide +kernel
theorem dL_law_1105 : decode code 1105 = .ok (.if_icmp .eq 901, 3) := by decide +kernel
theorem dL_law_1110 : decode code 1110 = .ok (.aload_n 1, 1) := by decide +kernel
theorem dL_law_1111 : decode code 1111 = .ok (.invokevirtual 145, 3) := by decide +kernel
theorem dL_law_1114 : decode code 1114 = .ok (.aload_n 2, 1) := by decide +kernel
theorem dL_law_1115 : decode code 1115 = .ok (.invokevirtual 148, 3) := by decide +kernel
theorem dL_law_1118 : decode code 1118 = .ok (.if_icmp .eq 888, 3) := by decide +kernel
theorem dL_law_1123 : decode code 1123 = .ok (.aload_n 1, 1) := by decide +kernel
theorem dL_law_1124 : decode code 1124 = .ok (.aload_n 0, 1) := by decide +kernel
theorem dL_law_1125 : decode code 1125 = .ok (.iload_n 3, 1) := by decide +kernel
theorem dL_law_1126 : decode code 1126 = .ok (.iconst 1, 1) := by decide +kernel
theorem dL_law_1127 : decode code 1127 = .ok (.iadd, 1) := by decide +kernel
theorem dL_law_1128 : decode code 1128 = .ok (.iaload, 1) := by decide +kernel
theorem dL_law_1129 : decode code 1129 = .ok (.invokevirtual 149, 3) := by decide +kernel
theorem dL_law_1132 : decode code 1132 = .ok (.aload_n 2, 1) := by decide +kernel
theorem dL_law_1133 : decode code 1133 = .ok (.aload_n 0, 1) := by decide +kernel
theorem dL_law_1134 : decode code 1134 = .ok (.iload_n 3, 1) := by decide +kernel
theorem dL_law_1135 : decode code 1135 = .ok (.iconst 1, 1) := by decide +kernel
theorem dL_law_1136 : decode code 1136 = .ok (.iadd, 1) := by decide +kernel
theorem dL_law_1137 : decode code 1137 = .ok (.iaload, 1) := by decide +kernel
theorem dL_law_1138 : decode code 1138 = .ok (.invokevirtual 152, 3) := by decide +kernel
theorem dL_law_1141 : decode code 1141 = .ok (.if_icmp .eq 865, 3) := by decide +kernel
theorem dL_law_1146 : decode code 1146 = .ok (.aload_n 1, 1) := by decide +kernel
theorem dL_law_1147 : decode code 1147 = .ok (.aload_n 0, 1) := by decide +kernel
theorem dL_law_1148 : decode code 1148 = .ok (.iload_n 3, 1) := by decide +kernel
theorem dL_law_1149 : decode code 1149 = .ok (.iconst 1, 1) := by decide +kernel
theorem dL_law_1150 : decode code 1150 = .ok (.iadd, 1) := by decide +kernel
theorem dL_law_1151 : decode code 1151 = .ok (.iaload, 1) := by decide +kernel
theorem dL_law_1152 : decode code 1152 = .ok (.invokevirtual 153, 3) := by decide +kernel
theorem dL_law_1155 : decode code 1155 = .ok (.aload_n 2, 1) := by decide +kernel
theorem dL_law_1156 : decode code 1156 = .ok (.aload_n 0, 1) := by decide +kernel
theorem dL_law_1157 : decode code 1157 = .ok (.iload_n 3, 1) := by decide +kernel
theorem dL_law_1158 : decode code 1158 = .ok (.iconst 1, 1) := by decide +kernel
theorem dL_law_1159 : decode code 1159 = .ok (.iadd, 1) := by decide +kernel
theorem dL_law_1160 : decode code 1160 = .ok (.iaload, 1) := by decide +kernel
theorem dL_law_1161 : decode code 1161 = .ok (.invokevirtual 156, 3) := by decide +kernel
theorem dL_law_1164 : decode code 1164 = .ok (.if_icmp .eq 842, 3) := by decide +kernel
theorem dL_law_1169 : decode code 1169 = .ok (.aload_n 1, 1) := by decide +kernel
theorem dL_law_1170 : decode code 1170 = .ok (.aload_n 0, 1) := by decide +kernel
theorem dL_law_1171 : decode code 1171 = .ok (.iload_n 3, 1) := by decide +kernel
theorem dL_law_1172 : decode code 1172 = .ok (.iconst 1, 1) := by decide +kernel
theorem dL_law_1173 : decode code 1173 = .ok (.iadd, 1) := by decide +kernel
theorem dL_law_1174 : decode code 1174 = .ok (.iaload, 1) := by decide +kernel
theorem dL_law_1175 : decode code 1175 = .ok (.invokevirtual 157, 3) := by decide +kernel
theorem dL_law_1178 : decode code 1178 = .ok (.aload_n 2, 1) := by decide +kernel
theorem dL_law_1179 : decode code 1179 = .ok (.aload_n 0, 1) := by decide +kernel
theorem dL_law_1180 : decode code 1180 = .ok (.iload_n 3, 1) := by decide +kernel
theorem dL_law_1181 : decode code 1181 = .ok (.iconst 1, 1) := by decide +kernel
theorem dL_law_1182 : decode code 1182 = .ok (.iadd, 1) := by decide +kernel
theorem dL_law_1183 : decode code 1183 = .ok (.iaload, 1) := by decide +kernel
theorem dL_law_1184 : decode code 1184 = .ok (.invokevirtual 160, 3) := by decide +kernel
theorem dL_law_1187 : decode code 1187 = .ok (.if_icmp .eq 819, 3) := by decide +kernel
theorem dL_law_1192 : decode code 1192 = .ok (.aload_n 1, 1) := by decide +kernel
theorem dL_law_1193 : decode code 1193 = .ok (.aload_n 0, 1) := by decide +kernel
theorem dL_law_1194 : decode code 1194 = .ok (.iload_n 3, 1) := by decide +kernel
theorem dL_law_1195 : decode code 1195 = .ok (.iconst 1, 1) := by decide +kernel
theorem dL_law_1196 : decode code 1196 = .ok (.iadd, 1) := by decide +kernel
theorem dL_law_1197 : decode code 1197 = .ok (.iaload, 1) := by decide +kernel
theorem dL_law_1198 : decode code 1198 = .ok (.invokevirtual 161, 3) := by decide +kernel
theorem dL_law_1201 : decode code 1201 = .ok (.aload_n 2, 1) := by decide +kernel
theorem dL_law_1202 : decode code 1202 = .ok (.aload_n 0, 1) := by decide +kernel
theorem dL_law_1203 : decode code 1203 = .ok (.iload_n 3, 1) := by decide +kernel
theorem dL_law_1204 : decode code 1204 = .ok (.iconst 1, 1) := by decide +kernel
theorem dL_law_1205 : decode code 1205 = .ok (.iadd, 1) := by decide +kernel
theorem dL_law_1206 : decode code 1206 = .ok (.iaload, 1) := by decide +kernel
theorem dL_law_1207 : decode code 1207 = .ok (.invokevirtual 164, 3) := by decide +kernel
theorem dL_law_1210 : decode code 1210 = .ok (.if_icmp .eq 796, 3) := by decide +kernel
theorem dL_law_1215 : decode code 1215 = .ok (.aload_n 1, 1) := by decide +kernel
theorem dL_law_1216 : decode code 1216 = .ok (.invokevirtual 165, 3) := by decide +kernel
theorem dL_law_1219 : decode code 1219 = .ok (.aload_n 2, 1) := by decide +kernel
theorem dL_law_1220 : decode code 1220 = .ok (.invokevirtual 168, 3) := by decide +kernel
theorem dL_law_1223 : decode code 1223 = .ok (.if_icmp .eq 783, 3) := by decide +kernel
theorem dL_law_1228 : decode code 1228 = .ok (.aload_n 1, 1) := by decide +kernel
theorem dL_law_1229 : decode code 1229 = .ok (.invokevirtual 169, 3) := by decide +kernel
theorem dL_law_1232 : decode code 1232 = .ok (.aload_n 2, 1) := by decide +kernel
theorem dL_law_1233 : decode code 1233 = .ok (.invokevirtual 172, 3) := by decide +kernel
theorem dL_law_1236 : decode code 1236 = .ok (.if_icmp .eq 770, 3) := by decide +kernel
theorem dL_law_1241 : decode code 1241 = .ok (.aload_n 1, 1) := by decide +kernel
theorem dL_law_1242 : decode code 1242 = .ok (.aload_n 0, 1) := by decide +kernel
theorem dL_law_1243 : decode code 1243 = .ok (.iload_n 3, 1) := by decide +kernel
theorem dL_law_1244 : decode code 1244 = .ok (.iconst 1, 1) := by decide +kernel
theorem dL_law_1245 : decode code 1245 = .ok (.iadd, 1) := by decide +kernel
theorem dL_law_1246 : decode code 1246 = .ok (.iaload, 1) := by decide +kernel
theorem dL_law_1247 : decode code 1247 = .ok (.invokevirtual 173, 3) := by decide +kernel
theorem dL_law_1250 : decode code 1250 = .ok (.aload_n 2, 1) := by decide +kernel
theorem dL_law_1251 : decode code 1251 = .ok (.aload_n 0, 1) := by decide +kernel
theorem dL_law_1252 : decode code 1252 = .ok (.iload_n 3, 1) := by decide +kernel
theorem dL_law_1253 : decode code 1253 = .ok (.iconst 1, 1) := by decide +kernel
theorem dL_law_1254 : decode code 1254 = .ok (.iadd, 1) := by decide +kernel
theorem dL_law_1255 : decode code 1255 = .ok (.iaload, 1) := by decide +kernel
theorem dL_law_1256 : decode code 1256 = .ok (.invokevirtual 176, 3) := by decide +kernel
theorem dL_law_1259 : decode code 1259 = .ok (.if_icmp .eq 747, 3) := by decide +kernel
theorem dL_law_1264 : decode code 1264 = .ok (.aload_n 1, 1) := by decide +kernel
theorem dL_law_1265 : decode code 1265 = .ok (.aload_n 0, 1) := by decide +kernel
theorem dL_law_1266 : decode code 1266 = .ok (.iload_n 3, 1) := by decide +kernel
theorem dL_law_1267 : decode code 1267 = .ok (.iconst 1, 1) := by decide +kernel
theorem dL_law_1268 : decode code 1268 = .ok (.iadd, 1) := by decide +kernel
theorem dL_law_1269 : decode code 1269 = .ok (.iaload, 1) := by decide +kernel
theorem dL_law_1270 : decode code 1270 = .ok (.invokevirtual 177, 3) := by decide +kernel
theorem dL_law_1273 : decode code 1273 = .ok (.aload_n 2, 1) := by decide +kernel
theorem dL_law_1274 : decode code 1274 = .ok (.aload_n 0, 1) := by decide +kernel
theorem dL_law_1275 : decode code 1275 = .ok (.iload_n 3, 1) := by decide +kernel
theorem dL_law_1276 : decode code 1276 = .ok (.iconst 1, 1) := by decide +kernel
theorem dL_law_1277 : decode code 1277 = .ok (.iadd, 1) := by decide +kernel
theorem dL_law_1278 : decode code 1278 = .ok (.iaload, 1) := by decide +kernel
theorem dL_law_1279 : decode code 1279 = .ok (.invokevirtual 180, 3) := by decide +kernel
theorem dL_law_1282 : decode code 1282 = .ok (.if_icmp .eq 724, 3) := by decide +kernel
theorem dL_law_1287 : decode code 1287 = .ok (.aload_n 1, 1) := by decide +kernel
theorem dL_law_1288 : decode code 1288 = .ok (.invokevirtual 181, 3) := by decide +kernel
theorem dL_law_1291 : decode code 1291 = .ok (.aload_n 2, 1) := by decide +kernel
theorem dL_law_1292 : decode code 1292 = .ok (.invokevirtual 184, 3) := by decide +kernel
theorem dL_law_1295 : decode code 1295 = .ok (.if_icmp .eq 711, 3) := by decide +kernel
theorem dL_law_1300 : decode code 1300 = .ok (.aload_n 1, 1) := by decide +kernel
theorem dL_law_1301 : decode code 1301 = .ok (.aload_n 0, 1) := by decide +kernel
theorem dL_law_1302 : decode code 1302 = .ok (.iload_n 3, 1) := by decide +kernel
theorem dL_law_1303 : decode code 1303 = .ok (.iconst 1, 1) := by decide +kernel
theorem dL_law_1304 : decode code 1304 = .ok (.iadd, 1) := by decide +kernel
theorem dL_law_1305 : decode code 1305 = .ok (.iaload, 1) := by decide +kernel
theorem dL_law_1306 : decode code 1306 = .ok (.invokevirtual 185, 3) := by decide +kernel
theorem dL_law_1309 : decode code 1309 = .ok (.aload_n 2, 1) := by decide +kernel
theorem dL_law_1310 : decode code 1310 = .ok (.aload_n 0, 1) := by decide +kernel
theorem dL_law_1311 : decode code 1311 = .ok (.iload_n 3, 1) := by decide +kernel
theorem dL_law_1312 : decode code 1312 = .ok (.iconst 1, 1) := by decide +kernel
theorem dL_law_1313 : decode code 1313 = .ok (.iadd, 1) := by decide +kernel
theorem dL_law_1314 : decode code 1314 = .ok (.iaload, 1) := by decide +kernel
theorem dL_law_1315 : decode code 1315 = .ok (.invokevirtual 188, 3) := by decide +kernel
theorem dL_law_1318 : decode code 1318 = .ok (.if_icmp .eq 688, 3) := by decide +kernel
theorem dL_law_1323 : decode code 1323 = .ok (.aload_n 1, 1) := by decide +kernel
theorem dL_law_1324 : decode code 1324 = .ok (.aload_n 0, 1) := by decide +kernel
theorem dL_law_1325 : decode code 1325 = .ok (.iload_n 3, 1) := by decide +kernel
