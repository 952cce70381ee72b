theorem dL_law__770 : decode cL_law_ 770 = .ok (.iconst 1, 1) := by decide +kernel
theorem dL_law__771 : decode cL_law_ 771 = .ok (.iadd, 1) := by decide +kernel
theorem dL_law__772 : decode cL_law_ 772 = .ok (.iaload, 1) := by decide +kernel
theorem dL_law__773 : decode cL_law_ 773 = .ok (.aload_n 0, 1) := by decide +kernel
theorem dL_law__774 : decode cL_law_ 774 = .ok (.iload 4, 2) := by decide +kernel
theorem dL_law__776 : decode cL_law_ 776 = .ok (.iconst 2, 1) := by decide +kernel
theorem dL_law__777 : decode cL_law_ 777 = .ok (.iadd, 1) := by decide +kernel
theorem dL_law__778 : decode cL_law_ 778 = .ok (.iaload, 1) := by decide +kernel
theorem dL_law__779 : decode cL_law_ 779 = .ok (.aload_n 0, 1) := by decide +kernel
theorem dL_law__780 : decode cL_law_ 780 = .ok (.iload 4, 2) := by decide +kernel
theorem dL_law__782 : decode cL_law_ 782 = .ok (.iconst 3, 1) := by decide +kernel
theorem dL_law__783 : decode cL_law_ 783 = .ok (.iadd, 1) := by decide +kernel
theorem dL_law__784 : decode cL_law_ 784 = .ok (.iaload, 1) := by decide +kernel
theorem dL_law__785 : decode cL_law_ 785 = .ok (.aload_n 0, 1) := by decide +kernel
theorem dL_law__786 : decode cL_law_ 786 = .ok (.iload 4, 2) := by decide +kernel
theorem dL_law__788 : decode cL_law_ 788 = .ok (.iconst 4, 1) := by decide +kernel
theorem dL_law__789 : decode cL_law_ 789 = .ok (.iadd, 1) := by decide +kernel
theorem dL_law__790 : decode cL_law_ 790 = .ok (.iaload, 1) := by decide +kernel
theorem dL_law__791 : decode cL_law_ 791 = .ok (.ifCond .eq 7, 3) := by decide +kernel
theorem dL_law__794 : decode cL_law_ 794 = .ok (.iconst 1, 1) := by decide +kernel
theorem dL_law__795 : decode cL_law_ 795 = .ok (.goto 4, 3) := by decide +kernel
theorem dL_law__798 : decode cL_law_ 798 = .ok (.iconst 0, 1) := by decide +kernel
theorem dL_law__799 : decode cL_law_ 799 = .ok (.aload_n 3, 1) := by decide +kernel
theorem dL_law__800 : decode cL_law_ 800 = .ok (.invokestatic 153, 3) := by decide +kernel
theorem dL_law__803 : decode cL_law_ 803 = .ok (.istore 5, 2) := by decide +kernel
theorem dL_law__805 : decode cL_law_ 805 = .ok (.aload_n 2, 1) := by decide +kernel
theorem dL_law__806 : decode cL_law_ 806 = .ok (.aload_n 0, 1) := by decide +kernel
theorem dL_law__807 : decode cL_law_ 807 = .ok (.iload 4, 2) := by decide +kernel
theorem dL_law__809 : decode cL_law_ 809 = .ok (.iconst 1, 1) := by decide +kernel
theorem dL_law__810 : decode cL_law_ 810 = .ok (.iadd, 1) := by decide +kernel
theorem dL_law__811 : decode cL_law_ 811 = .ok (.iaload, 1) := by decide +kernel
theorem dL_law__812 : decode cL_law_ 812 = .ok (.aload_n 0, 1) := by decide +kernel
theorem dL_law__813 : decode cL_law_ 813 = .ok (.iload 4, 2) := by decide +kernel
theorem dL_law__815 : decode cL_law_ 815 = .ok (.iconst 2, 1) := by decide +kernel
theorem dL_law__816 : decode cL_law_ 816 = .ok (.iadd, 1) := by decide +kernel
theorem dL_law__817 : decode cL_law_ 817 = .ok (.iaload, 1) := by decide +kernel
theorem dL_law__818 : decode cL_law_ 818 = .ok (.aload_n 0, 1) := by decide +kernel
theorem dL_law__819 : decode cL_law_ 819 = .ok (.iload 4, 2) := by decide +kernel
theorem dL_law__821 : decode cL_law_ 821 = .ok (.iconst 3, 1) := by decide +kernel
theorem dL_law__822 : decode cL_law_ 822 = .ok (.iadd, 1) := by decide +kernel
theorem dL_law__823 : decode cL_law_ 823 = .ok (.iaload, 1) := by decide +kernel
theorem dL_law__824 : decode cL_law_ 824 = .ok (.aload_n 0, 1) := by decide +kernel
theorem dL_law__825 : decode cL_law_ 825 = .ok (.iload 4, 2) := by decide +kernel
theorem dL_law__827 : decode cL_law_ 827 = .ok (.iconst 4, 1) := by decide +kernel
theorem dL_law__828 : decode cL_law_ 828 = .ok (.iadd, 1) := by decide +kernel
theorem dL_law__829 : decode cL_law_ 829 = .ok (.iaload, 1) := by decide +kernel
theorem dL_law__830 : decode cL_law_ 830 = .ok (.ifCond .eq 7, 3) := by decide +kernel
theorem dL_law__833 : decode cL_law_ 833 = .ok (.iconst 1, 1) := by decide +kernel
theorem dL_law__834 : decode cL_law_ 834 = .ok (.goto 4, 3) := by decide +kernel
theorem dL_law__837 : decode cL_law_ 837 = .ok (.iconst 0, 1) := by decide +kernel
theorem dL_law__838 : decode cL_law_ 838 = .ok (.invokevirtual 156, 3) := by decide +kernel
theorem dL_law__841 : decode cL_law_ 841 = .ok (.istore 6, 2) := by decide +kernel
theorem dL_law__843 : decode cL_law_ 843 = .ok (.aload_n 2, 1) := by decide +kernel
theorem dL_law__844 : decode cL_law_ 844 = .ok (.invokevirtual 124, 3) := by decide +kernel
theorem dL_law__847 : decode cL_law_ 847 = .ok (.iload 5, 2) := by decide +kernel
theorem dL_law__849 : decode cL_law_ 849 = .ok (.if_icmp .eq 5, 3) := by decide +kernel
theorem dL_law__852 : decode cL_law_ 852 = .ok (.iconst 0, 1) := by decide +kernel
theorem dL_law__853 : decode cL_law_ 853 = .ok (.ireturn, 1) := by decide +kernel
theorem dL_law__854 : decode cL_law_ 854 = .ok (.iload 5, 2) := by decide +kernel
theorem dL_law__856 : decode cL_law_ 856 = .ok (.ifCond .ne 15, 3) := by decide +kernel
theorem dL_law__859 : decode cL_law_ 859 = .ok (.aload_n 3, 1) := by decide +kernel
theorem dL_law__860 : decode cL_law_ 860 = .ok (.iconst 0, 1) := by decide +kernel
theorem dL_law__861 : decode cL_law_ 861 = .ok (.laload, 1) := by decide +kernel
theorem dL_law__862 : decode cL_law_ 862 = .ok (.iload 6, 2) := by decide +kernel
theorem dL_law__864 : decode cL_law_ 864 = .ok (.i2l, 1) := by decide +kernel
theorem dL_law__865 : decode cL_law_ 865 = .ok (.lcmp, 1) := by decide +kernel
theorem dL_law__866 : decode cL_law_ 866 = .ok (.ifCond .eq 5, 3) := by decide +kernel
theorem dL_law__869 : decode cL_law_ 869 = .ok (.iconst 0, 1) := by decide +kernel
theorem dL_law__870 : decode cL_law_ 870 = .ok (.ireturn, 1) := by decide +kernel
theorem dL_law__871 : decode cL_law_ 871 = .ok (.goto 1768, 3) := by decide +kernel
theorem dL_law__874 : decode cL_law_ 874 = .ok (.aload_n 1, 1) := by decide +kernel
theorem dL_law__875 : decode cL_law_ 875 = .ok (.aload_n 0, 1) := by decide +kernel
theorem dL_law__876 : decode cL_law_ 876 = .ok (.iload 4, 2) := by decide +kernel
theorem dL_law__878 : decode cL_law_ 878 = .ok (.iconst 1, 1) := by decide +kernel
theorem dL_law__879 : decode cL_law_ 879 = .ok (.iadd, 1) := by decide +kernel
theorem dL_law__880 : decode cL_law_ 880 = .ok (.iaload, 1) := by decide +kernel
theorem dL_law__881 : decode cL_law_ 881 = .ok (.aload_n 0, 1) := by decide +kernel
theorem dL_law__882 : decode cL_law_ 882 = .ok (.iload 4, 2) := by decide +kernel
theorem dL_law__884 : decode cL_law_ 884 = .ok (.iconst 2, 1) := by decide +kernel
theorem dL_law__885 : decode cL_law_ 885 = .ok (.iadd, 1) := by decide +kernel
theorem dL_law__886 : decode cL_law_ 886 = .ok (.iaload, 1) := by decide +kernel
theorem dL_law__887 : decode cL_law_ 887 = .ok (.aload_n 0, 1) := by decide +kernel
theorem dL_law__888 : decode cL_law_ 888 = .ok (.iload 4, 2) := by decide +kernel
theorem dL_law__890 : decode cL_law_ 890 = .ok (.iconst 3, 1) := by decide +kernel
theorem dL_law__891 : decode cL_law_ 891 = .ok (.iadd, 1) := by decide +kernel
theorem dL_law__892 : decode cL_law_ 892 = .ok (.iaload, 1) := by decide +kernel
theorem dL_law__893 : decode cL_law_ 893 = .ok (.aload_n 0, 1) := by decide +kernel
theorem dL_law__894 : decode cL_law_ 894 = .ok (.iload 4, 2) := by decide +kernel
theorem dL_law__896 : decode cL_law_ 896 = .ok (.iconst 4, 1) := by decide +kernel
theorem dL_law__897 : decode cL_law_ 897 = .ok (.iadd, 1) := by decide +kernel
theorem dL_law__898 : decode cL_law_ 898 = .ok (.iaload, 1) := by decide +kernel
theorem dL_law__899 : decode cL_law_ 899 = .ok (.aload_n 3, 1) := by decide +kernel
theorem dL_law__900 : decode cL_law_ 900 = .ok (.invokestatic 157, 3) := by decide +kernel
theorem dL_law__903 : decode cL_law_ 903 = .ok (.istore 5, 2) := by decide +kernel
theorem dL_law__905 : decode cL_law_ 905 = .ok (.aload_n 2, 1) := by decide +kernel
theorem dL_law__906 : decode cL_law_ 906 = .ok (.aload_n 0, 1) := by decide +kernel
theorem dL_law__907 : decode cL_law_ 907 = .ok (.iload 4, 2) := by decide +kernel
theorem dL_law__909 : decode cL_law_ 909 = .ok (.iconst 1, 1) := by decide +kernel
theorem dL_law__910 : decode cL_law_ 910 = .ok (.iadd, 1) := by decide +kernel
theorem dL_law__911 : decode cL_law_ 911 = .ok (.iaload, 1) := by decide +kernel
theorem dL_law__912 : decode cL_law_ 912 = .ok (.aload_n 0, 1) := by decide +kernel
theorem dL_law__913 : decode cL_law_ 913 = .ok (.iload 4, 2) := by decide +kernel
theorem dL_law__915 : decode cL_law_ 915 = .ok (.iconst 2, 1) := by decide +kernel
theorem dL_law__916 : decode cL_law_ 916 = .ok (.iadd, 1) := by decide +kernel
theorem dL_law__917 : decode cL_law_ 917 = .ok (.iaload, 1) := by decide +kernel
theorem dL_law__918 : decode cL_law_ 918 = .ok (.aload_n 0, 1) := by decide +kernel
theorem dL_law__919 : decode cL_law_ 919 = .ok (.iload 4, 2) := by decide +kernel
theorem dL_law__921 : decode cL_law_ 921 = .ok (.iconst 3, 1) := by decide +kernel
theorem dL_law__922 : decode cL_law_ 922 = .ok (.iadd, 1) := by decide +kernel
theorem dL_law__923 : decode cL_law_ 923 = .ok (.iaload, 1) := by decide +kernel
theorem dL_law__924 : decode cL_law_ 924 = .ok (.aload_n 0, 1) := by decide +kernel
theorem dL_law__925 : decode cL_law_ 925 = .ok (.iload 4, 2) := by decide +kernel
theorem dL_law__927 : decode cL_law_ 927 = .ok (.iconst 4, 1) := by decide +kernel
theorem dL_law__928 : decode cL_law_ 928 = .ok (.iadd, 1) := by decide +kernel
theorem dL_law__929 : decode cL_law_ 929 = .ok (.iaload, 1) := by decide +kernel
theorem dL_law__930 : decode cL_law_ 930 = .ok (.invokevirtual 160, 3) := by decide +kernel
theorem dL_law__933 : decode cL_law_ 933 = .ok (.istore 6, 2) := by decide +kernel
theorem dL_law__935 : decode cL_law_ 935 = .ok (.aload_n 2, 1) := by decide +kernel
theorem dL_law__936 : decode cL_law_ 936 = .ok (.invokevirtual 124, 3) := by decide +kernel
theorem dL_law__939 : decode cL_law_ 939 = .ok (.iload 5, 2) := by decide +kernel
theorem dL_law__941 : decode cL_law_ 941 = .ok (.if_icmp .eq 5, 3) := by decide +kernel
theorem dL_law__944 : decode cL_law_ 944 = .ok (.iconst 0, 1) := by decide +kernel
theorem dL_law__945 : decode cL_law_ 945 = .ok (.ireturn, 1) := by decide +kernel
theorem dL_law__946 : decode cL_law_ 946 = .ok (.iload 5, 2) := by decide +kernel
theorem dL_law__948 : decode cL_law_ 948 = .ok (.ifCond .ne 22, 3) := by decide +kernel
theorem dL_law__951 : decode cL_law_ 951 = .ok (.aload_n 3, 1) := by decide +kernel
theorem dL_law__952 : decode cL_law_ 952 = .ok (.iconst 0, 1) := by decide +kernel
theorem dL_law__953 : decode cL_law_ 953 = .ok (.laload, 1) := by decide +kernel
theorem dL_law__954 : decode cL_law_ 954 = .ok (.iload 6, 2) := by decide +kernel
theorem dL_law__956 : decode cL_law_ 956 = .ok (.ifCond .eq 7, 3) := by decide +kernel
theorem dL_law__959 : decode cL_law_ 959 = .ok (.lconst 1, 1) := by decide +kernel
theorem dL_law__960 : decode cL_law_ 960 = .ok (.goto 4, 3) := by decide +kernel
theorem dL_law__963 : decode cL_law_ 963 = .ok (.lconst 0, 1) := by decide +kernel
theorem dL_law__964 : decode cL_law_ 964 = .ok (.lcmp, 1) := by decide +kernel
theorem dL_law__965 : decode cL_law_ 965 = .ok (.ifCond .eq 5, 3) := by decide +kernel
theorem dL_law__968 : decode cL_law_ 968 = .ok (.iconst 0, 1) := by decide +kernel
theorem dL_law__969 : decode cL_law_ 969 = .ok (.ireturn, 1) := by decide +kernel
theorem dL_law__970 : decode cL_law_ 970 = .ok (.goto 1669, 3) := by decide +kernel
theorem dL_law__973 : decode cL_law_ 973 = .ok (.aload_n 1, 1) := by decide +kernel
theorem dL_law__974 : decode cL_law_ 974 = .ok (.aload_n 0, 1) := by decide +kernel
theorem dL_law__975 : decode cL_law_ 975 = .ok (.iload 4, 2) := by decide +kernel
theorem dL_law__977 : decode cL_law_ 977 = .ok (.iconst 1, 1) := by decide +kernel
theorem dL_law__978 : decode cL_law_ 978 = .ok (.iadd, 1) := by decide +kernel
theorem dL_law__979 : decode cL_law_ 979 = .ok (.iaload, 1) := by decide +kernel
theorem dL_law__980 : decode cL_law_ 980 = .ok (.aload_n 0, 1) := by decide +kernel
theorem dL_law__981 : decode cL_law_ 981 = .ok (.iload 4, 2) := by decide +kernel
theorem dL_law__983 : decode cL_law_ 983 = .ok (.iconst 2, 1) := by decide +kernel
theorem dL_law__984 : decode cL_law_ 984 = .ok (.iadd, 1) := by decide +kernel
theorem dL_law__985 : decode cL_law_ 985 = .ok (.iaload, 1) := by decide +kernel
theorem dL_law__986 : decode cL_law_ 986 = .ok (.aload_n 0, 1) := by decide +kernel
theorem dL_law__987 : decode cL_law_ 987 = .ok (.iload 4, 2) := by decide +kernel
theorem dL_law__989 : decode cL_law_ 989 = .ok (.iconst 3, 1) := by decide +kernel
theorem dL_law__990 : decode cL_law_ 990 = .ok (.iadd, 1) := by decide +kernel
theorem dL_law__991 : decode cL_law_ 991 = .ok (.iaload, 1) := by decide +kernel
theorem dL_law__992 : decode cL_law_ 992 = .ok (.aload_n 3, 1) := by decide +kernel
theorem dL_law__993 : decode cL_law_ 993 = .ok (.invokestatic 161, 3) := by decide +kernel
theorem dL_law__996 : decode cL_law_ 996 = .ok (.istore 5, 2) := by decide +kernel
theorem dL_law__998 : decode cL_law_ 998 = .ok (.aload_n 2, 1) := by decide +kernel
theorem dL_law__999 : decode cL_law_ 999 = .ok (.aload_n 0, 1) := by decide +kernel
theorem dL_law__1000 : decode cL_law_ 1000 = .ok (.iload 4, 2) := by decide +kernel
theorem dL_law__1002 : decode cL_law_ 1002 = .ok (.iconst 1, 1) := by decide +kernel
theorem dL_law__1003 : decode cL_law_ 1003 = .ok (.iadd, 1) := by decide +kernel
theorem dL_law__1004 : decode cL_law_ 1004 = .ok (.iaload, 1) := by decide +kernel
theorem dL_law__1005 : decode cL_law_ 1005 = .ok (.aload_n 0, 1) := by decide +kernel
theorem dL_law__1006 : decode cL_law_ 1006 = .ok (.iload 4, 2) := by decide +kernel
theorem dL_law__1008 : decode cL_law_ 1008 = .ok (.iconst 2, 1) := by decide +kernel
theorem dL_law__1009 : decode cL_law_ 1009 = .ok (.iadd, 1) := by decide +kernel
theorem dL_law__1010 : decode cL_law_ 1010 = .ok (.iaload, 1) := by decide +kernel
theorem dL_law__1011 : decode cL_law_ 1011 = .ok (.aload_n 0, 1) := by decide +kernel
theorem dL_law__1012 : decode cL_law_ 1012 = .ok (.iload 4, 2) := by decide +kernel
theorem dL_law__1014 : decode cL_law_ 1014 = .ok (.iconst 3, 1) := by decide +kernel
theorem dL_law__1015 : decode cL_law_ 1015 = .ok (.iadd, 1) := by decide +kernel
theorem dL_law__1016 : decode cL_law_ 1016 = .ok (.iaload, 1) := by decide +kernel
theorem dL_law__1017 : decode cL_law_ 1017 = .ok (.invokevirtual 163, 3) := by decide +kernel
theorem dL_law__1020 : decode cL_law_ 1020 = .ok (.istore 6, 2) := by decide +kernel
theorem dL_law__1022 : decode cL_law_ 1022 = .ok (.aload_n 2, 1) := by decide +kernel
theorem dL_law__1023 : decode cL_law_ 1023 = .ok (.invokevirtual 124, 3) := by decide +kernel
theorem dL_law__1026 : decode cL_law_ 1026 = .ok (.iload 5, 2) := by decide +kernel
theorem dL_law__1028 : decode cL_law_ 1028 = .ok (.if_icmp .eq 5, 3) := by decide +kernel
theorem dL_law__1031 : decode cL_law_ 1031 = .ok (.iconst 0, 1) := by decide +kernel
theorem dL_law__1032 : decode cL_law_ 1032 = .ok (.ireturn, 1) := by decide +kernel
theorem dL_law__1033 : decode cL_law_ 1033 = .ok (.iload 5, 2) := by decide +kernel
theorem dL_law__1035 : decode cL_law_ 1035 = .ok (.ifCond .ne 15, 3) := by decide +kernel
theorem dL_law__1038 : decode cL_law_ 1038 = .ok (.aload_n 3, 1) := by decide +kernel
theorem dL_law__1039 : decode cL_law_ 1039 = .ok (.iconst 0, 1) := by decide +kernel
theorem dL_law__1040 : decode cL_law_ 1040 = .ok (.laload, 1) := by decide +kernel
theorem dL_law__1041 : decode cL_law_ 1041 = .ok (.iload 6, 2) := by decide +kernel
theorem dL_law__1043 : decode cL_law_ 1043 = .ok (.i2l, 1) := by decide +kernel
theorem dL_law__1044 : decode cL_law_ 1044 = .ok (.lcmp, 1) := by decide +kernel
theorem dL_law__1045 : decode cL_law_ 1045 = .ok (.ifCond .eq 5, 3) := by decide +kernel
theorem dL_law__1048 : decode cL_law_ 1048 = .ok (.iconst 0, 1) := by decide +kernel
theorem dL_law__1049 : decode cL_law_ 1049 = .ok (.ireturn, 1) := by decide +kernel
theorem dL_law__1050 : decode cL_law_ 1050 = .ok (.goto 1589, 3) := by decide +kernel
theorem dL_law__1053 : decode cL_law_ 1053 = .ok (.aload_n 1, 1) := by decide +kernel
theorem dL_law__1054 : decode cL_law_ 1054 = .ok (.aload_n 0, 1) := by decide +kernel
theorem dL_law__1055 : decode cL_law_ 1055 = .ok (.iload 4, 2) := by decide +kernel
theorem dL_law__1057 : decode cL_law_ 1057 = .ok (.iconst 1, 1) := by decide +kernel
theorem dL_law__1058 : decode cL_law_ 1058 = .ok (.iadd, 1) := by decide +kernel
theorem dL_law__1059 : decode cL_law_ 1059 = .ok (.iaload, 1) := by decide +kernel
theorem dL_law__1060 : decode cL_law_ 1060 = .ok (.aload_n 0, 1) := by decide +kernel
theorem dL_law__1061 : decode cL_law_ 1061 = .ok (.iload 4, 2) := by decide +kernel
theorem dL_law__1063 : decode cL_law_ 1063 = .ok (.iconst 2, 1) := by decide +kernel
theorem dL_law__1064 : decode cL_law_ 1064 = .ok (.iadd, 1) := by decide +kernel
theorem dL_law__1065 : decode cL_law_ 1065 = .ok (.iaload, 1) := by decide +kernel
theorem dL_law__1066 : decode cL_law_ 1066 = .ok (.aload_n 0, 1) := by decide +kernel
theorem dL_law__1067 : decode cL_law_ 1067 = .ok (.iload 4, 2) := by decide +kernel
theorem dL_law__1069 : decode cL_law_ 1069 = .ok (.iconst 3, 1) := by decide +kernel
theorem dL_law__1070 : decode cL_law_ 1070 = .ok (.iadd, 1) := by decide +kernel
theorem dL_law__1071 : decode cL_law_ 1071 = .ok (.iaload, 1) := by decide +kernel
theorem dL_law__1072 : decode cL_law_ 1072 = .ok (.aload_n 0, 1) := by decide +kernel
theorem dL_law__1073 : decode cL_law_ 1073 = .ok (.iload 4, 2) := by decide +kernel
theorem dL_law__1075 : decode cL_law_ 1075 = .ok (.iconst 4, 1) := by decide +kernel
theorem dL_law__1076 : decode cL_law_ 1076 = .ok (.iadd, 1) := by decide +kernel
theorem dL_law__1077 : decode cL_law_ 1077 = .ok (.iaload, 1) := by decide +kernel
theorem dL_law__1078 : decode cL_law_ 1078 = .ok (.aload_n 3, 1) := by decide +kernel
theorem dL_law__1079 : decode cL_law_ 1079 = .ok (.invokestatic 164, 3) := by decide +kernel
theorem dL_law__1082 : decode cL_law_ 1082 = .ok (.istore 5, 2) := by decide +kernel
theorem dL_law__1084 : decode cL_law_ 1084 = .ok (.aload_n 2, 1) := by decide +kernel
theorem dL_law__1085 : decode cL_law_ 1085 = .ok (.aload_n 0, 1) := by decide +kernel
theorem dL_law__1086 : decode cL_law_ 1086 = .ok (.iload 4, 2) := by decide +kernel
theorem dL_law__1088 : decode cL_law_ 1088 = .ok (.iconst 1, 1) := by decide +kernel
theorem dL_law__1089 : decode cL_law_ 1089 = .ok (.iadd, 1) := by decide +kernel
theorem dL_law__1090 : decode cL_law_ 1090 = .ok (.iaload, 1) := by decide +kernel
theorem dL_law__1091 : decode cL_law_ 1091 = .ok (.aload_n 0, 1) := by decide +kernel
theorem dL_law__1092 : decode cL_law_ 1092 = .ok (.iload 4, 2) := by decide +kernel
theorem dL_law__1094 : decode cL_law_ 1094 = .ok (.iconst 2, 1) := by decide +kernel
theorem dL_law__1095 : decode cL_law_ 1095 = .ok (.iadd, 1) := by decide +kernel
theorem dL_law__1096 : decode cL_law_ 1096 = .ok (.iaload, 1) := by decide +kernel
theorem dL_law__1097 : decode cL_law_ 1097 = .ok (.aload_n 0, 1) := by decide +kernel
theorem dL_law__1098 : decode cL_law_ 1098 = .ok (.iload 4, 2) := by decide +kernel
theorem dL_law__1100 : decode cL_law_ 1100 = .ok (.iconst 3, 1) := by decide +kernel
theorem dL_law__1101 : decode cL_law_ 1101 = .ok (.iadd, 1) := by decide +kernel
theorem dL_law__1102 : decode cL_law_ 1102 = .ok (.iaload, 1) := by decide +kernel
theorem dL_law__1103 : decode cL_law_ 1103 = .ok (.aload_n 0, 1) := by decide +kernel
theorem dL_law__1104 : decode cL_law_ 1104 = .ok (.iload 4, 2) := by decide +kernel
theorem dL_law__1106 : decode cL_law_ 1106 = .ok (.iconst 4, 1) := by decide +kernel
theorem dL_law__1107 : decode cL_law_ 1107 = .ok (.iadd, 1) := by decide +kernel
theorem dL_law__1108 : decode cL_law_ 1108 = .ok (.iaload, 1) := by decide +kernel
theorem dL_law__1109 : decode cL_law_ 1109 = .ok (.invokevirtual 166, 3) := by decide +kernel
theorem dL_law__1112 : decode cL_law_ 1112 = .ok (.istore 6, 2) := by decide +kernel
theorem dL_law__1114 : decode cL_law_ 1114 = .ok (.aload_n 2, 1) := by decide +kernel
theorem dL_law__1115 : decode cL_law_ 1115 = .ok (.invokevirtual 124, 3) := by decide +kernel
theorem dL_law__1118 : decode cL_law_ 1118 = .ok (.iload 5, 2) := by decide +kernel
theorem dL_law__1120 : decode cL_law_ 1120 = .ok (.if_icmp .eq 5, 3) := by decide +kernel
theorem dL_law__1123 : decode cL_law_ 1123 = .ok (.iconst 0, 1) := by decide +kernel
theorem dL_law__1124 : decode cL_law_ 1124 = .ok (.ireturn, 1) := by decide +kernel
theorem dL_law__1125 : decode cL_law_ 1125 = .ok (.iload 5, 2) := by decide +kernel
theorem dL_law__1127 : decode cL_law_ 1127 = .ok (.ifCond .ne 15, 3) := by decide +kernel
theorem dL_law__1130 : decode cL_law_ 1130 = .ok (.aload_n 3, 1) := by decide +kernel
theorem dL_law__1131 : decode cL_law_ 1131 = .ok (.iconst 0, 1) := by decide +kernel
theorem dL_law__1132 : decode cL_law_ 1132 = .ok (.laload, 1) := by decide +kernel
theorem dL_law__1133 : decode cL_law_ 1133 = .ok (.iload 6, 2) := by decide +kernel
theorem dL_law__1135 : decode cL_law_ 1135 = .ok (.i2l, 1) := by decide +kernel
theorem dL_law__1136 : decode cL_law_ 1136 = .ok (.lcmp, 1) := by decide +kernel
theorem dL_law__1137 : decode cL_law_ 1137 = .ok (.ifCond .eq 5, 3) := by decide +kernel
theorem dL_law__1140 : decode cL_law_ 1140 = .ok (.iconst 0, 1) := by decide +kernel
theorem dL_law__1141 : decode cL_law_ 1141 = .ok (.ireturn, 1) := by decide +kernel
theorem dL_law__1142 : decode cL_law_ 1142 = .ok (.goto 1497, 3) := by decide +kernel
theorem dL_law__1145 : decode cL_law_ 1145 = .ok (.aload_n 1, 1) := by decide +kernel
theorem dL_law__1146 : decode cL_law_ 1146 = .ok (.aload_n 0, 1) := by decide +kernel
theorem dL_law__1147 : decode cL_law_ 1147 = .ok (.iload 4, 2) := by decide +kernel
theorem dL_law__1149 : decode cL_law_ 1149 = .ok (.iconst 1, 1) := by decide +kernel
theorem dL_law__1150 : decode cL_law_ 1150 = .ok (.iadd, 1) := by decide +kernel
theorem dL_law__1151 : decode cL_law_ 1151 = .ok (.iaload, 1) := by decide +kernel
theorem dL_law__1152 : decode cL_law_ 1152 = .ok (.aload_n 0, 1) := by decide +kernel
theorem dL_law__1153 : decode cL_law_ 1153 = .ok (.iload 4, 2) := by decide +kernel
theorem dL_law__1155 : decode cL_law_ 1155 = .ok (.iconst 2, 1) := by decide +kernel
theorem dL_law__1156 : decode cL_law_ 1156 = .ok (.iadd, 1) := by decide +kernel
theorem dL_law__1157 : decode cL_law_ 1157 = .ok (.iaload, 1) := by decide +kernel
theorem dL_law__1158 : decode cL_law_ 1158 = .ok (.aload_n 0, 1) := by decide +kernel
theorem dL_law__1159 : decode cL_law_ 1159 = .ok (.iload 4, 2) := by decide +kernel
theorem dL_law__1161 : decode cL_law_ 1161 = .ok (.iconst 3, 1) := by decide +kernel
theorem dL_law__1162 : decode cL_law_ 1162 = .ok (.iadd, 1) := by decide +kernel
theorem dL_law__1163 : decode cL_law_ 1163 = .ok (.iaload, 1) := by decide +kernel
theorem dL_law__1164 : decode cL_law_ 1164 = .ok (.aload_n 0, 1) := by decide +kernel
theorem dL_law__1165 : decode cL_law_ 1165 = .ok (.iload 4, 2) := by decide +kernel
theorem dL_law__1167 : decode cL_law_ 1167 = .ok (.iconst 4, 1) := by decide +kernel
theorem dL_law__1168 : decode cL_law_ 1168 = .ok (.iadd, 1) := by decide +kernel
theorem dL_law__1169 : decode cL_law_ 1169 = .ok (.iaload, 1) := by decide +kernel
theorem dL_law__1170 : decode cL_law_ 1170 = .ok (.aload_n 0, 1) := by decide +kernel
theorem dL_law__1171 : decode cL_law_ 1171 = .ok (.iload 4, 2) := by decide +kernel
theorem dL_law__1173 : decode cL_law_ 1173 = .ok (.iconst 5, 1) := by decide +kernel
theorem dL_law__1174 : decode cL_law_ 1174 = .ok (.iadd, 1) := by decide +kernel
theorem dL_law__1175 : decode cL_law_ 1175 = .ok (.iaload, 1) := by decide +kernel
theorem dL_law__1176 : decode cL_law_ 1176 = .ok (.ifCond .eq 7, 3) := by decide +kernel
theorem dL_law__1179 : decode cL_law_ 1179 = .ok (.iconst 1, 1) := by decide +kernel
theorem dL_law__1180 : decode cL_law_ 1180 = .ok (.goto 4, 3) := by decide +kernel
theorem dL_law__1183 : decode cL_law_ 1183 = .ok (.iconst 0, 1) := by decide +kernel
theorem dL_law__1184 : decode cL_law_ 1184 = .ok (.aload_n 3, 1) := by decide +kernel
theorem dL_law__1185 : decode cL_law_ 1185 = .ok (.invokestatic 167, 3) := by decide +kernel
theorem dL_law__1188 : decode cL_law_ 1188 = .ok (.istore 5, 2) := by decide +kernel
theorem dL_law__1190 : decode cL_law_ 1190 = .ok (.aload_n 2, 1) := by decide +kernel
theorem dL_law__1191 : decode cL_law_ 1191 = .ok (.aload_n 0, 1) := by decide +kernel
theorem dL_law__1192 : decode cL_law_ 1192 = .ok (.iload 4, 2) := by decide +kernel
theorem dL_law__1194 : decode cL_law_ 1194 = .ok (.iconst 1, 1) := by decide +kernel
theorem dL_law__1195 : decode cL_law_ 1195 = .ok (.iadd, 1) := by decide +kernel
theorem dL_law__1196 : decode cL_law_ 1196 = .ok (.iaload, 1) := by decide +kernel
theorem dL_law__1197 : decode cL_law_ 1197 = .ok (.aload_n 0, 1) := by decide +kernel
theorem dL_law__1198 : decode cL_law_ 1198 = .ok (.iload 4, 2) := by decide +kernel
theorem dL_law__1200 : decode cL_law_ 1200 = .ok (.iconst 2, 1) := by decide +kernel
theorem dL_law__1201 : decode cL_law_ 1201 = .ok (.iadd, 1) := by decide +kernel
theorem dL_law__1202 : decode cL_law_ 1202 = .ok (.iaload, 1) := by decide +kernel
theorem dL_law__1203 : decode cL_law_ 1203 = .ok (.aload_n 0, 1) := by decide +kernel
theorem dL_law__1204 : decode cL_law_ 1204 = .ok (.iload 4, 2) := by decide +kernel
theorem dL_law__1206 : decode cL_law_ 1206 = .ok (.iconst 3, 1) := by decide +kernel
theorem dL_law__1207 : decode cL_law_ 1207 = .ok (.iadd, 1) := by decide +kernel
theorem dL_law__1208 : decode cL_law_ 1208 = .ok (.iaload, 1) := by decide +kernel
theorem dL_law__1209 : decode cL_law_ 1209 = .ok (.aload_n 0, 1) := by decide +kernel
theorem dL_law__1210 : decode cL_law_ 1210 = .ok (.iload 4, 2) := by decide +kernel
theorem dL_law__1212 : decode cL_law_ 1212 = .ok (.iconst 4, 1) := by decide +kernel
theorem dL_law__1213 : decode cL_law_ 1213 = .ok (.iadd, 1) := by decide +kernel
theorem dL_law__1214 : decode cL_law_ 1214 = .ok (.iaload, 1) := by decide +kernel
theorem dL_law__1215 : decode cL_law_ 1215 = .ok (.aload_n 0, 1) := by decide +kernel
theorem dL_law__1216 : decode cL_law_ 1216 = .ok (.iload 4, 2) := by decide +kernel
theorem dL_law__1218 : decode cL_law_ 1218 = .ok (.iconst 5, 1) := by decide +kernel
theorem dL_law__1219 : decode cL_law_ 1219 = .ok (.iadd, 1) := by decide +kernel
theorem dL_law__1220 : decode cL_law_ 1220 = .ok (.iaload, 1) := by decide +kernel
theorem dL_law__1221 : decode cL_law_ 1221 = .ok (.ifCond .eq 7, 3) := by decide +kernel
theorem dL_law__1224 : decode cL_law_ 1224 = .ok (.iconst 1, 1) := by decide +kernel
theorem dL_law__1225 : decode cL_law_ 1225 = .ok (.goto 4, 3) := by decide +kernel
theorem dL_law__1228 : decode cL_law_ 1228 = .ok (.iconst 0, 1) := by decide +kernel
theorem dL_law__1229 : decode cL_law_ 1229 = .ok (.invokevirtual 170, 3) := by decide +kernel
theorem dL_law__1232 : decode cL_law_ 1232 = .ok (.istore 6, 2) := by decide +kernel
theorem dL_law__1234 : decode cL_law_ 1234 = .ok (.aload_n 2, 1) := by decide +kernel
theorem dL_law__1235 : decode cL_law_ 1235 = .ok (.invokevirtual 124, 3) := by decide +kernel
theorem dL_law__1238 : decode cL_law_ 1238 = .ok (.iload 5, 2) := by decide +kernel
theorem dL_law__1240 : decode cL_law_ 1240 = .ok (.if_icmp .eq 5, 3) := by decide +kernel
theorem dL_law__1243 : decode cL_law_ 1243 = .ok (.iconst 0, 1) := by decide +kernel
theorem dL_law__1244 : decode cL_law_ 1244 = .ok (.ireturn, 1) := by decide +kernel
theorem dL_law__1245 : decode cL_law_ 1245 = .ok (.iload 5, 2) := by decide +kernel
theorem dL_law__1247 : decode cL_law_ 1247 = .ok (.ifCond .ne 15, 3) := by decide +kernel
theorem dL_law__1250 : decode cL_law_ 1250 = .ok (.aload_n 3, 1) := by decide +kernel
theorem dL_law__1251 : decode cL_law_ 1251 = .ok (.iconst 0, 1) := by decide +kernel
theorem dL_law__1252 : decode cL_law_ 1252 = .ok (.laload, 1) := by decide +kernel
theorem dL_law__1253 : decode cL_law_ 1253 = .ok (.iload 6, 2) := by decide +kernel
theorem dL_law__1255 : decode cL_law_ 1255 = .ok (.i2l, 1) := by decide +kernel
theorem dL_law__1256 : decode cL_law_ 1256 = .ok (.lcmp, 1) := by decide +kernel
theorem dL_law__1257 : decode cL_law_ 1257 = .ok (.ifCond .eq 5, 3) := by decide +kernel
theorem dL_law__1260 : decode cL_law_ 1260 = .ok (.iconst 0, 1) := by decide +kernel
theorem dL_law__1261 : decode cL_law_ 1261 = .ok (.ireturn, 1) := by decide +kernel
theorem dL_law__1262 : decode cL_law_ 1262 = .ok (.goto 1377, 3) := by decide +kernel
theorem dL_law__1265 : decode cL_law_ 1265 = .ok (.aload_n 1, 1) := by decide +kernel
theorem dL_law__1266 : decode cL_law_ 1266 = .ok (.aload_n 0, 1) := by decide +kernel
theorem dL_law__1267 : decode cL_law_ 1267 = .ok (.iload 4, 2) := by decide +kernel
theorem dL_law__1269 : decode cL_law_ 1269 = .ok (.iconst 1, 1) := by decide +kernel
theorem dL_law__1270 : decode cL_law_ 1270 = .ok (.iadd, 1) := by decide +kernel
theorem dL_law__1271 : decode cL_law_ 1271 = .ok (.iaload, 1) := by decide +kernel
theorem dL_law__1272 : decode cL_law_ 1272 = .ok (.aload_n 0, 1) := by decide +kernel
theorem dL_law__1273 : decode cL_law_ 1273 = .ok (.iload 4, 2) := by decide +kernel
theorem dL_law__1275 : decode cL_law_ 1275 = .ok (.iconst 2, 1) := by decide +kernel
theorem dL_law__1276 : decode cL_law_ 1276 = .ok (.iadd, 1) := by decide +kernel
theorem dL_law__1277 : decode cL_law_ 1277 = .ok (.iaload, 1) := by decide +kernel
theorem dL_law__1278 : decode cL_law_ 1278 = .ok (.aload_n 0, 1) := by decide +kernel
theorem dL_law__1279 : decode cL_law_ 1279 = .ok (.iload 4, 2) := by decide +kernel
theorem dL_law__1281 : decode cL_law_ 1281 = .ok (.iconst 3, 1) := by decide +kernel
theorem dL_law__1282 : decode cL_law_ 1282 = .ok (.iadd, 1) := by decide +kernel
theorem dL_law__1283 : decode cL_law_ 1283 = .ok (.iaload, 1) := by decide +kernel
theorem dL_law__1284 : decode cL_law_ 1284 = .ok (.aload_n 0, 1) := by decide +kernel
theorem dL_law__1285 : decode cL_law_ 1285 = .ok (.iload 4, 2) := by decide +kernel
theorem dL_law__1287 : decode cL_law_ 1287 = .ok (.iconst 4, 1) := by decide +kernel
theorem dL_law__1288 : decode cL_law_ 1288 = .ok (.iadd, 1) := by decide +kernel
theorem dL_law__1289 : decode cL_law_ 1289 = .ok (.iaload, 1) := by decide +kernel
theorem dL_law__1290 : decode cL_law_ 1290 = .ok (.aload_n 0, 1) := by decide +kernel
theorem dL_law__1291 : decode cL_law_ 1291 = .ok (.iload 4, 2) := by decide +kernel
theorem dL_law__1293 : decode cL_law_ 1293 = .ok (.iconst 5, 1) := by decide +kernel
theorem dL_law__1294 : decode cL_law_ 1294 = .ok (.iadd, 1) := by decide +kernel
theorem dL_law__1295 : decode cL_law_ 1295 = .ok (.iaload, 1) := by decide +kernel
theorem dL_law__1296 : decode cL_law_ 1296 = .ok (.ifCond .eq 7, 3) := by decide +kernel
theorem dL_law__1299 : decode cL_law_ 1299 = .ok (.iconst 1, 1) := by decide +kernel
theorem dL_law__1300 : decode cL_law_ 1300 = .ok (.goto 4, 3) := by decide +kernel
theorem dL_law__1303 : decode cL_law_ 1303 = .ok (.iconst 0, 1) := by decide +kernel
theorem dL_law__1304 : decode cL_law_ 1304 = .ok (.aload_n 3, 1) := by decide +kernel
theorem dL_law__1305 : decode cL_law_ 1305 = .ok (.invokestatic 171, 3) := by decide +kernel
theorem dL_law__1308 : decode cL_law_ 1308 = .ok (.istore 5, 2) := by decide +kernel
theorem dL_law__1310 : decode cL_law_ 1310 = .ok (.aload_n 2, 1) := by decide +kernel
theorem dL_law__1311 : decode cL_law_ 1311 = .ok (.aload_n 0, 1) := by decide +kernel
theorem dL_law__1312 : decode cL_law_ 1312 = .ok (.iload 4, 2) := by decide +kernel
theorem dL_law__1314 : decode cL_law_ 1314 = .ok (.iconst 1, 1) := by decide +kernel
theorem dL_law__1315 : decode cL_law_ 1315 = .ok (.iadd, 1) := by decide +kernel
theorem dL_law__1316 : decode cL_law_ 1316 = .ok (.iaload, 1) := by decide +kernel
theorem dL_law__1317 : decode cL_law_ 1317 = .ok (.aload_n 0, 1) := by decide +kernel
theorem dL_law__1318 : decode cL_law_ 1318 = .ok (.iload 4, 2) := by decide +kernel
theorem dL_law__1320 : decode cL_law_ 1320 = .ok (.iconst 2, 1) := by decide +kernel
theorem dL_law__1321 : decode cL_law_ 1321 = .ok (.iadd, 1) := by decide +kernel
theorem dL_law__1322 : decode cL_law_ 1322 = .ok (.iaload, 1) := by decide +kernel
theorem dL_law__1323 : decode cL_law_ 1323 = .ok (.aload_n 0, 1) := by decide +kernel
theorem dL_law__1324 : decode cL_law_ 1324 = .ok (.iload 4, 2) := by decide +kernel
theorem dL_law__1326 : decode cL_law_ 1326 = .ok (.iconst 3, 1) := by decide +kernel
theorem dL_law__1327 : decode cL_law_ 1327 = .ok (.iadd, 1) := by decide +kernel
theorem dL_law__1328 : decode cL_law_ 1328 = .ok (.iaload, 1) := by decide +kernel
theorem dL_law__1329 : decode cL_law_ 1329 = .ok (.aload_n 0, 1) := by decide +kernel
theorem dL_law__1330 : decode cL_law_ 1330 = .ok (.iload 4, 2) := by decide +kernel
theorem dL_law__1332 : decode cL_law_ 1332 = .ok (.iconst 4, 1) := by decide +kernel
theorem dL_law__1333 : decode cL_law_ 1333 = .ok (.iadd, 1) := by decide +kernel
theorem dL_law__1334 : decode cL_law_ 1334 = .ok (.iaload, 1) := by decide +kernel
theorem dL_law__1335 : decode cL_law_ 1335 = .ok (.aload_n 0, 1) := by decide +kernel
theorem dL_law__1336 : decode cL_law_ 1336 = .ok (.iload 4, 2) := by decide +kernel
theorem dL_law__1338 : decode cL_law_ 1338 = .ok (.iconst 5, 1) := by decide +kernel
theorem dL_law__1339 : decode cL_law_ 1339 = .ok (.iadd, 1) := by decide +kernel
theorem dL_law__1340 : decode cL_law_ 1340 = .ok (.iaload, 1) := by decide +kernel
theorem dL_law__1341 : decode cL_law_ 1341 = .ok (.ifCond .eq 7, 3) := by decide +kernel
theorem dL_law__1344 : decode cL_law_ 1344 = .ok (.iconst 1, 1) := by decide +kernel
theorem dL_law__1345 : decode cL_law_ 1345 = .ok (.goto 4, 3) := by decide +kernel
theorem dL_law__1348 : decode cL_law_ 1348 = .ok (.iconst 0, 1) := by decide +kernel
theorem dL_law__1349 : decode cL_law_ 1349 = .ok (.invokevirtual 173, 3) := by decide +kernel
theorem dL_law__1352 : decode cL_law_ 1352 = .ok (.istore 6, 2) := by decide +kernel
theorem dL_law__1354 : decode cL_law_ 1354 = .ok (.aload_n 2, 1) := by decide +kernel
theorem dL_law__1355 : decode cL_law_ 1355 = .ok (.invokevirtual 124, 3) := by decide +kernel
theorem dL_law__1358 : decode cL_law_ 1358 = .ok (.iload 5, 2) := by decide +kernel
theorem dL_law__1360 : decode cL_law_ 1360 = .ok (.if_icmp .eq 5, 3) := by decide +kernel
theorem dL_law__1363 : decode cL_law_ 1363 = .ok (.iconst 0, 1) := by decide +kernel
theorem dL_law__1364 : decode cL_law_ 1364 = .ok (.ireturn, 1) := by decide +kernel
theorem dL_law__1365 : decode cL_law_ 1365 = .ok (.iload 5, 2) := by decide +kernel
theorem dL_law__1367 : decode cL_law_ 1367 = .ok (.ifCond .ne 15, 3) := by decide +kernel
theorem dL_law__1370 : decode cL_law_ 1370 = .ok (.aload_n 3, 1) := by decide +kernel
theorem dL_law__1371 : decode cL_law_ 1371 = .ok (.iconst 0, 1) := by decide +kernel
theorem dL_law__1372 : decode cL_law_ 1372 = .ok (.laload, 1) := by decide +kernel
theorem dL_law__1373 : decode cL_law_ 1373 = .ok (.iload 6, 2) := by decide +kernel
theorem dL_law__1375 : decode cL_law_ 1375 = .ok (.i2l, 1) := by decide +kernel
theorem dL_law__1376 : decode cL_law_ 1376 = .ok (.lcmp, 1) := by decide +kernel
theorem dL_law__1377 : decode cL_law_ 1377 = .ok (.ifCond .eq 5, 3) := by decide +kernel
theorem dL_law__1380 : decode cL_law_ 1380 = .ok (.iconst 0, 1) := by decide +kernel
theorem dL_law__1381 : decode cL_law_ 1381 = .ok (.ireturn, 1) := by decide +kernel
theorem dL_law__1382 : decode cL_law_ 1382 = .ok (.goto 1257, 3) := by decide +kernel
theorem dL_law__1385 : decode cL_law_ 1385 = .ok (.aload_n 1, 1) := by decide +kernel
theorem dL_law__1386 : decode cL_law_ 1386 = .ok (.aload_n 0, 1) := by decide +kernel
theorem dL_law__1387 : decode cL_law_ 1387 = .ok (.iload 4, 2) := by decide +kernel
