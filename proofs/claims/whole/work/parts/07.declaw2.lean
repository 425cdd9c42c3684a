/-! OWN DECODE ROWS of the law, by program (wip/whole/gen/names.py) -/
theorem d_L_law_782 : decode b_L_law 782 = .ok (.iaload, 1) := by decide +kernel
theorem d_L_law_783 : decode b_L_law 783 = .ok (.ifCond .eq 7, 3) := by decide +kernel
theorem d_L_law_786 : decode b_L_law 786 = .ok (.iconst 1, 1) := by decide +kernel
theorem d_L_law_787 : decode b_L_law 787 = .ok (.goto 4, 3) := by decide +kernel
theorem d_L_law_790 : decode b_L_law 790 = .ok (.iconst 0, 1) := by decide +kernel
theorem d_L_law_791 : decode b_L_law 791 = .ok (.aload_n 3, 1) := by decide +kernel
theorem d_L_law_792 : decode b_L_law 792 = .ok (.invokestatic 115, 3) := by decide +kernel
theorem d_L_law_795 : decode b_L_law 795 = .ok (.istore 5, 2) := by decide +kernel
theorem d_L_law_797 : decode b_L_law 797 = .ok (.aload_n 2, 1) := by decide +kernel
theorem d_L_law_798 : decode b_L_law 798 = .ok (.aload_n 0, 1) := by decide +kernel
theorem d_L_law_799 : decode b_L_law 799 = .ok (.iload 4, 2) := by decide +kernel
theorem d_L_law_801 : decode b_L_law 801 = .ok (.iconst 1, 1) := by decide +kernel
theorem d_L_law_802 : decode b_L_law 802 = .ok (.iadd, 1) := by decide +kernel
theorem d_L_law_803 : decode b_L_law 803 = .ok (.iaload, 1) := by decide +kernel
theorem d_L_law_804 : decode b_L_law 804 = .ok (.aload_n 0, 1) := by decide +kernel
theorem d_L_law_805 : decode b_L_law 805 = .ok (.iload 4, 2) := by decide +kernel
theorem d_L_law_807 : decode b_L_law 807 = .ok (.iconst 2, 1) := by decide +kernel
theorem d_L_law_808 : decode b_L_law 808 = .ok (.iadd, 1) := by decide +kernel
theorem d_L_law_809 : decode b_L_law 809 = .ok (.iaload, 1) := by decide +kernel
theorem d_L_law_810 : decode b_L_law 810 = .ok (.ifCond .eq 7, 3) := by decide +kernel
theorem d_L_law_813 : decode b_L_law 813 = .ok (.iconst 1, 1) := by decide +kernel
theorem d_L_law_814 : decode b_L_law 814 = .ok (.goto 4, 3) := by decide +kernel
theorem d_L_law_817 : decode b_L_law 817 = .ok (.iconst 0, 1) := by decide +kernel
theorem d_L_law_818 : decode b_L_law 818 = .ok (.invokevirtual 117, 3) := by decide +kernel
theorem d_L_law_821 : decode b_L_law 821 = .ok (.istore 6, 2) := by decide +kernel
theorem d_L_law_823 : decode b_L_law 823 = .ok (.aload_n 2, 1) := by decide +kernel
theorem d_L_law_824 : decode b_L_law 824 = .ok (.invokevirtual 72, 3) := by decide +kernel
theorem d_L_law_827 : decode b_L_law 827 = .ok (.iload 5, 2) := by decide +kernel
theorem d_L_law_829 : decode b_L_law 829 = .ok (.if_icmp .eq 5, 3) := by decide +kernel
theorem d_L_law_832 : decode b_L_law 832 = .ok (.iconst 0, 1) := by decide +kernel
theorem d_L_law_833 : decode b_L_law 833 = .ok (.ireturn, 1) := by decide +kernel
theorem d_L_law_834 : decode b_L_law 834 = .ok (.iload 5, 2) := by decide +kernel
theorem d_L_law_836 : decode b_L_law 836 = .ok (.ifCond .ne 15, 3) := by decide +kernel
theorem d_L_law_839 : decode b_L_law 839 = .ok (.aload_n 3, 1) := by decide +kernel
theorem d_L_law_840 : decode b_L_law 840 = .ok (.iconst 0, 1) := by decide +kernel
theorem d_L_law_841 : decode b_L_law 841 = .ok (.laload, 1) := by decide +kernel
theorem d_L_law_842 : decode b_L_law 842 = .ok (.iload 6, 2) := by decide +kernel
theorem d_L_law_844 : decode b_L_law 844 = .ok (.i2l, 1) := by decide +kernel
theorem d_L_law_845 : decode b_L_law 845 = .ok (.lcmp, 1) := by decide +kernel
theorem d_L_law_846 : decode b_L_law 846 = .ok (.ifCond .eq 5, 3) := by decide +kernel
theorem d_L_law_849 : decode b_L_law 849 = .ok (.iconst 0, 1) := by decide +kernel
theorem d_L_law_850 : decode b_L_law 850 = .ok (.ireturn, 1) := by decide +kernel
theorem d_L_law_851 : decode b_L_law 851 = .ok (.goto 260, 3) := by decide +kernel
theorem d_L_law_854 : decode b_L_law 854 = .ok (.aload_n 1, 1) := by decide +kernel
theorem d_L_law_855 : decode b_L_law 855 = .ok (.aload_n 0, 1) := by decide +kernel
theorem d_L_law_856 : decode b_L_law 856 = .ok (.iload 4, 2) := by decide +kernel
theorem d_L_law_858 : decode b_L_law 858 = .ok (.iconst 1, 1) := by decide +kernel
theorem d_L_law_859 : decode b_L_law 859 = .ok (.iadd, 1) := by decide +kernel
theorem d_L_law_860 : decode b_L_law 860 = .ok (.iaload, 1) := by decide +kernel
theorem d_L_law_861 : decode b_L_law 861 = .ok (.aload_n 0, 1) := by decide +kernel
theorem d_L_law_862 : decode b_L_law 862 = .ok (.iload 4, 2) := by decide +kernel
theorem d_L_law_864 : decode b_L_law 864 = .ok (.iconst 2, 1) := by decide +kernel
theorem d_L_law_865 : decode b_L_law 865 = .ok (.iadd, 1) := by decide +kernel
theorem d_L_law_866 : decode b_L_law 866 = .ok (.iaload, 1) := by decide +kernel
theorem d_L_law_867 : decode b_L_law 867 = .ok (.ifCond .eq 7, 3) := by decide +kernel
theorem d_L_law_870 : decode b_L_law 870 = .ok (.iconst 1, 1) := by decide +kernel
theorem d_L_law_871 : decode b_L_law 871 = .ok (.goto 4, 3) := by decide +kernel
theorem d_L_law_874 : decode b_L_law 874 = .ok (.iconst 0, 1) := by decide +kernel
theorem d_L_law_875 : decode b_L_law 875 = .ok (.aload_n 3, 1) := by decide +kernel
theorem d_L_law_876 : decode b_L_law 876 = .ok (.invokestatic 118, 3) := by decide +kernel
theorem d_L_law_879 : decode b_L_law 879 = .ok (.istore 5, 2) := by decide +kernel
theorem d_L_law_881 : decode b_L_law 881 = .ok (.aload_n 2, 1) := by decide +kernel
theorem d_L_law_882 : decode b_L_law 882 = .ok (.aload_n 0, 1) := by decide +kernel
theorem d_L_law_883 : decode b_L_law 883 = .ok (.iload 4, 2) := by decide +kernel
theorem d_L_law_885 : decode b_L_law 885 = .ok (.iconst 1, 1) := by decide +kernel
theorem d_L_law_886 : decode b_L_law 886 = .ok (.iadd, 1) := by decide +kernel
theorem d_L_law_887 : decode b_L_law 887 = .ok (.iaload, 1) := by decide +kernel
theorem d_L_law_888 : decode b_L_law 888 = .ok (.aload_n 0, 1) := by decide +kernel
theorem d_L_law_889 : decode b_L_law 889 = .ok (.iload 4, 2) := by decide +kernel
theorem d_L_law_891 : decode b_L_law 891 = .ok (.iconst 2, 1) := by decide +kernel
theorem d_L_law_892 : decode b_L_law 892 = .ok (.iadd, 1) := by decide +kernel
theorem d_L_law_893 : decode b_L_law 893 = .ok (.iaload, 1) := by decide +kernel
theorem d_L_law_894 : decode b_L_law 894 = .ok (.ifCond .eq 7, 3) := by decide +kernel
theorem d_L_law_897 : decode b_L_law 897 = .ok (.iconst 1, 1) := by decide +kernel
theorem d_L_law_898 : decode b_L_law 898 = .ok (.goto 4, 3) := by decide +kernel
theorem d_L_law_901 : decode b_L_law 901 = .ok (.iconst 0, 1) := by decide +kernel
theorem d_L_law_902 : decode b_L_law 902 = .ok (.invokevirtual 120, 3) := by decide +kernel
theorem d_L_law_905 : decode b_L_law 905 = .ok (.istore 6, 2) := by decide +kernel
theorem d_L_law_907 : decode b_L_law 907 = .ok (.aload_n 2, 1) := by decide +kernel
theorem d_L_law_908 : decode b_L_law 908 = .ok (.invokevirtual 72, 3) := by decide +kernel
theorem d_L_law_911 : decode b_L_law 911 = .ok (.iload 5, 2) := by decide +kernel
theorem d_L_law_913 : decode b_L_law 913 = .ok (.if_icmp .eq 5, 3) := by decide +kernel
theorem d_L_law_916 : decode b_L_law 916 = .ok (.iconst 0, 1) := by decide +kernel
theorem d_L_law_917 : decode b_L_law 917 = .ok (.ireturn, 1) := by decide +kernel
theorem d_L_law_918 : decode b_L_law 918 = .ok (.iload 5, 2) := by decide +kernel
theorem d_L_law_920 : decode b_L_law 920 = .ok (.ifCond .ne 15, 3) := by decide +kernel
theorem d_L_law_923 : decode b_L_law 923 = .ok (.aload_n 3, 1) := by decide +kernel
theorem d_L_law_924 : decode b_L_law 924 = .ok (.iconst 0, 1) := by decide +kernel
theorem d_L_law_925 : decode b_L_law 925 = .ok (.laload, 1) := by decide +kernel
theorem d_L_law_926 : decode b_L_law 926 = .ok (.iload 6, 2) := by decide +kernel
theorem d_L_law_928 : decode b_L_law 928 = .ok (.i2l, 1) := by decide +kernel
theorem d_L_law_929 : decode b_L_law 929 = .ok (.lcmp, 1) := by decide +kernel
theorem d_L_law_930 : decode b_L_law 930 = .ok (.ifCond .eq 5, 3) := by decide +kernel
theorem d_L_law_933 : decode b_L_law 933 = .ok (.iconst 0, 1) := by decide +kernel
theorem d_L_law_934 : decode b_L_law 934 = .ok (.ireturn, 1) := by decide +kernel
theorem d_L_law_935 : decode b_L_law 935 = .ok (.goto 176, 3) := by decide +kernel
theorem d_L_law_938 : decode b_L_law 938 = .ok (.aload_n 1, 1) := by decide +kernel
theorem d_L_law_939 : decode b_L_law 939 = .ok (.aload_n 0, 1) := by decide +kernel
theorem d_L_law_940 : decode b_L_law 940 = .ok (.iload 4, 2) := by decide +kernel
theorem d_L_law_942 : decode b_L_law 942 = .ok (.iconst 1, 1) := by decide +kernel
theorem d_L_law_943 : decode b_L_law 943 = .ok (.iadd, 1) := by decide +kernel
theorem d_L_law_944 : decode b_L_law 944 = .ok (.iaload, 1) := by decide +kernel
theorem d_L_law_945 : decode b_L_law 945 = .ok (.ifCond .eq 7, 3) := by decide +kernel
theorem d_L_law_948 : decode b_L_law 948 = .ok (.iconst 1, 1) := by decide +kernel
theorem d_L_law_949 : decode b_L_law 949 = .ok (.goto 4, 3) := by decide +kernel
theorem d_L_law_952 : decode b_L_law 952 = .ok (.iconst 0, 1) := by decide +kernel
theorem d_L_law_953 : decode b_L_law 953 = .ok (.invokevirtual 121, 3) := by decide +kernel
theorem d_L_law_956 : decode b_L_law 956 = .ok (.aload_n 2, 1) := by decide +kernel
theorem d_L_law_957 : decode b_L_law 957 = .ok (.aload_n 0, 1) := by decide +kernel
theorem d_L_law_958 : decode b_L_law 958 = .ok (.iload 4, 2) := by decide +kernel
theorem d_L_law_960 : decode b_L_law 960 = .ok (.iconst 1, 1) := by decide +kernel
theorem d_L_law_961 : decode b_L_law 961 = .ok (.iadd, 1) := by decide +kernel
theorem d_L_law_962 : decode b_L_law 962 = .ok (.iaload, 1) := by decide +kernel
theorem d_L_law_963 : decode b_L_law 963 = .ok (.ifCond .eq 7, 3) := by decide +kernel
theorem d_L_law_966 : decode b_L_law 966 = .ok (.iconst 1, 1) := by decide +kernel
theorem d_L_law_967 : decode b_L_law 967 = .ok (.goto 4, 3) := by decide +kernel
theorem d_L_law_970 : decode b_L_law 970 = .ok (.iconst 0, 1) := by decide +kernel
theorem d_L_law_971 : decode b_L_law 971 = .ok (.invokevirtual 125, 3) := by decide +kernel
theorem d_L_law_974 : decode b_L_law 974 = .ok (.if_icmp .eq 137, 3) := by decide +kernel
theorem d_L_law_977 : decode b_L_law 977 = .ok (.iconst 0, 1) := by decide +kernel
theorem d_L_law_978 : decode b_L_law 978 = .ok (.ireturn, 1) := by decide +kernel
theorem d_L_law_979 : decode b_L_law 979 = .ok (.aload_n 1, 1) := by decide +kernel
theorem d_L_law_980 : decode b_L_law 980 = .ok (.aload_n 0, 1) := by decide +kernel
theorem d_L_law_981 : decode b_L_law 981 = .ok (.iload 4, 2) := by decide +kernel
theorem d_L_law_983 : decode b_L_law 983 = .ok (.iconst 1, 1) := by decide +kernel
theorem d_L_law_984 : decode b_L_law 984 = .ok (.iadd, 1) := by decide +kernel
theorem d_L_law_985 : decode b_L_law 985 = .ok (.iaload, 1) := by decide +kernel
theorem d_L_law_986 : decode b_L_law 986 = .ok (.ifCond .eq 7, 3) := by decide +kernel
theorem d_L_law_989 : decode b_L_law 989 = .ok (.iconst 1, 1) := by decide +kernel
theorem d_L_law_990 : decode b_L_law 990 = .ok (.goto 4, 3) := by decide +kernel
theorem d_L_law_993 : decode b_L_law 993 = .ok (.iconst 0, 1) := by decide +kernel
theorem d_L_law_994 : decode b_L_law 994 = .ok (.aload_n 0, 1) := by decide +kernel
theorem d_L_law_995 : decode b_L_law 995 = .ok (.iload 4, 2) := by decide +kernel
theorem d_L_law_997 : decode b_L_law 997 = .ok (.iconst 2, 1) := by decide +kernel
theorem d_L_law_998 : decode b_L_law 998 = .ok (.iadd, 1) := by decide +kernel
theorem d_L_law_999 : decode b_L_law 999 = .ok (.iaload, 1) := by decide +kernel
theorem d_L_law_1000 : decode b_L_law 1000 = .ok (.aload_n 0, 1) := by decide +kernel
theorem d_L_law_1001 : decode b_L_law 1001 = .ok (.iload 4, 2) := by decide +kernel
theorem d_L_law_1003 : decode b_L_law 1003 = .ok (.iconst 3, 1) := by decide +kernel
theorem d_L_law_1004 : decode b_L_law 1004 = .ok (.iadd, 1) := by decide +kernel
theorem d_L_law_1005 : decode b_L_law 1005 = .ok (.iaload, 1) := by decide +kernel
theorem d_L_law_1006 : decode b_L_law 1006 = .ok (.aload_n 3, 1) := by decide +kernel
theorem d_L_law_1007 : decode b_L_law 1007 = .ok (.invokestatic 126, 3) := by decide +kernel
theorem d_L_law_1010 : decode b_L_law 1010 = .ok (.istore 5, 2) := by decide +kernel
theorem d_L_law_1012 : decode b_L_law 1012 = .ok (.aload_n 2, 1) := by decide +kernel
theorem d_L_law_1013 : decode b_L_law 1013 = .ok (.aload_n 0, 1) := by decide +kernel
theorem d_L_law_1014 : decode b_L_law 1014 = .ok (.iload 4, 2) := by decide +kernel
theorem d_L_law_1016 : decode b_L_law 1016 = .ok (.iconst 1, 1) := by decide +kernel
theorem d_L_law_1017 : decode b_L_law 1017 = .ok (.iadd, 1) := by decide +kernel
theorem d_L_law_1018 : decode b_L_law 1018 = .ok (.iaload, 1) := by decide +kernel
theorem d_L_law_1019 : decode b_L_law 1019 = .ok (.ifCond .eq 7, 3) := by decide +kernel
theorem d_L_law_1022 : decode b_L_law 1022 = .ok (.iconst 1, 1) := by decide +kernel
theorem d_L_law_1023 : decode b_L_law 1023 = .ok (.goto 4, 3) := by decide +kernel
theorem d_L_law_1026 : decode b_L_law 1026 = .ok (.iconst 0, 1) := by decide +kernel
theorem d_L_law_1027 : decode b_L_law 1027 = .ok (.aload_n 0, 1) := by decide +kernel
theorem d_L_law_1028 : decode b_L_law 1028 = .ok (.iload 4, 2) := by decide +kernel
theorem d_L_law_1030 : decode b_L_law 1030 = .ok (.iconst 2, 1) := by decide +kernel
theorem d_L_law_1031 : decode b_L_law 1031 = .ok (.iadd, 1) := by decide +kernel
theorem d_L_law_1032 : decode b_L_law 1032 = .ok (.iaload, 1) := by decide +kernel
theorem d_L_law_1033 : decode b_L_law 1033 = .ok (.aload_n 0, 1) := by decide +kernel
theorem d_L_law_1034 : decode b_L_law 1034 = .ok (.iload 4, 2) := by decide +kernel
theorem d_L_law_1036 : decode b_L_law 1036 = .ok (.iconst 3, 1) := by decide +kernel
theorem d_L_law_1037 : decode b_L_law 1037 = .ok (.iadd, 1) := by decide +kernel
theorem d_L_law_1038 : decode b_L_law 1038 = .ok (.iaload, 1) := by decide +kernel
theorem d_L_law_1039 : decode b_L_law 1039 = .ok (.invokevirtual 129, 3) := by decide +kernel
theorem d_L_law_1042 : decode b_L_law 1042 = .ok (.istore 6, 2) := by decide +kernel
theorem d_L_law_1044 : decode b_L_law 1044 = .ok (.aload_n 2, 1) := by decide +kernel
theorem d_L_law_1045 : decode b_L_law 1045 = .ok (.invokevirtual 72, 3) := by decide +kernel
theorem d_L_law_1048 : decode b_L_law 1048 = .ok (.iload 5, 2) := by decide +kernel
theorem d_L_law_1050 : decode b_L_law 1050 = .ok (.if_icmp .eq 5, 3) := by decide +kernel
theorem d_L_law_1053 : decode b_L_law 1053 = .ok (.iconst 0, 1) := by decide +kernel
theorem d_L_law_1054 : decode b_L_law 1054 = .ok (.ireturn, 1) := by decide +kernel
theorem d_L_law_1055 : decode b_L_law 1055 = .ok (.iload 5, 2) := by decide +kernel
theorem d_L_law_1057 : decode b_L_law 1057 = .ok (.ifCond .ne 15, 3) := by decide +kernel
theorem d_L_law_1060 : decode b_L_law 1060 = .ok (.aload_n 3, 1) := by decide +kernel
theorem d_L_law_1061 : decode b_L_law 1061 = .ok (.iconst 0, 1) := by decide +kernel
theorem d_L_law_1062 : decode b_L_law 1062 = .ok (.laload, 1) := by decide +kernel
theorem d_L_law_1063 : decode b_L_law 1063 = .ok (.iload 6, 2) := by decide +kernel
theorem d_L_law_1065 : decode b_L_law 1065 = .ok (.i2l, 1) := by decide +kernel
theorem d_L_law_1066 : decode b_L_law 1066 = .ok (.lcmp, 1) := by decide +kernel
theorem d_L_law_1067 : decode b_L_law 1067 = .ok (.ifCond .eq 5, 3) := by decide +kernel
theorem d_L_law_1070 : decode b_L_law 1070 = .ok (.iconst 0, 1) := by decide +kernel
theorem d_L_law_1071 : decode b_L_law 1071 = .ok (.ireturn, 1) := by decide +kernel
theorem d_L_law_1072 : decode b_L_law 1072 = .ok (.goto 39, 3) := by decide +kernel
theorem d_L_law_1075 : decode b_L_law 1075 = .ok (.aload_n 1, 1) := by decide +kernel
theorem d_L_law_1076 : decode b_L_law 1076 = .ok (.aload_n 0, 1) := by decide +kernel
theorem d_L_law_1077 : decode b_L_law 1077 = .ok (.iload 4, 2) := by decide +kernel
theorem d_L_law_1079 : decode b_L_law 1079 = .ok (.iconst 1, 1) := by decide +kernel
theorem d_L_law_1080 : decode b_L_law 1080 = .ok (.iadd, 1) := by decide +kernel
theorem d_L_law_1081 : decode b_L_law 1081 = .ok (.iaload, 1) := by decide +kernel
theorem d_L_law_1082 : decode b_L_law 1082 = .ok (.invokevirtual 130, 3) := by decide +kernel
theorem d_L_law_1085 : decode b_L_law 1085 = .ok (.aload_n 2, 1) := by decide +kernel
theorem d_L_law_1086 : decode b_L_law 1086 = .ok (.aload_n 0, 1) := by decide +kernel
theorem d_L_law_1087 : decode b_L_law 1087 = .ok (.iload 4, 2) := by decide +kernel
theorem d_L_law_1089 : decode b_L_law 1089 = .ok (.iconst 1, 1) := by decide +kernel
theorem d_L_law_1090 : decode b_L_law 1090 = .ok (.iadd, 1) := by decide +kernel
theorem d_L_law_1091 : decode b_L_law 1091 = .ok (.iaload, 1) := by decide +kernel
theorem d_L_law_1092 : decode b_L_law 1092 = .ok (.invokevirtual 133, 3) := by decide +kernel
theorem d_L_law_1095 : decode b_L_law 1095 = .ok (.if_icmp .eq 16, 3) := by decide +kernel
theorem d_L_law_1098 : decode b_L_law 1098 = .ok (.iconst 0, 1) := by decide +kernel
theorem d_L_law_1099 : decode b_L_law 1099 = .ok (.ireturn, 1) := by decide +kernel
theorem d_L_law_1100 : decode b_L_law 1100 = .ok (.aload_n 1, 1) := by decide +kernel
theorem d_L_law_1101 : decode b_L_law 1101 = .ok (.invokevirtual 134, 3) := by decide +kernel
theorem d_L_law_1104 : decode b_L_law 1104 = .ok (.aload_n 2, 1) := by decide +kernel
theorem d_L_law_1105 : decode b_L_law 1105 = .ok (.invokevirtual 137, 3) := by decide +kernel
theorem d_L_law_1108 : decode b_L_law 1108 = .ok (.goto 3, 3) := by decide +kernel
theorem d_L_law_1111 : decode b_L_law 1111 = .ok (.iinc 4 4, 3) := by decide +kernel
theorem d_L_law_1114 : decode b_L_law 1114 = .ok (.goto (-1061), 3) := by decide +kernel
theorem d_L_law_1117 : decode b_L_law 1117 = .ok (.iconst 1, 1) := by decide +kernel
theorem d_L_law_1118 : decode b_L_law 1118 = .ok (.ireturn, 1) := by decide +kernel
