theorem dL_law_811 : decode cL_law 811 = .ok (.iconst 1, 1) := by decide +kernel
theorem dL_law_812 : decode cL_law 812 = .ok (.if_icmp .ne 39, 3) := by decide +kernel
theorem dL_law_815 : decode cL_law 815 = .ok (.aload 8, 2) := by decide +kernel
theorem dL_law_817 : decode cL_law 817 = .ok (.iconst 2, 1) := by decide +kernel
theorem dL_law_818 : decode cL_law 818 = .ok (.invokevirtual 119, 3) := by decide +kernel
theorem dL_law_821 : decode cL_law 821 = .ok (.iconst 1, 1) := by decide +kernel
theorem dL_law_822 : decode cL_law 822 = .ok (.if_icmp .ne 29, 3) := by decide +kernel
theorem dL_law_825 : decode cL_law 825 = .ok (.aload 8, 2) := by decide +kernel
theorem dL_law_827 : decode cL_law 827 = .ok (.invokestatic 274, 3) := by decide +kernel
theorem dL_law_830 : decode cL_law 830 = .ok (.iload 7, 2) := by decide +kernel
theorem dL_law_832 : decode cL_law 832 = .ok (.iconst 2, 1) := by decide +kernel
theorem dL_law_833 : decode cL_law 833 = .ok (.isub, 1) := by decide +kernel
theorem dL_law_834 : decode cL_law 834 = .ok (.iconst 1, 1) := by decide +kernel
theorem dL_law_835 : decode cL_law 835 = .ok (.iconst 1, 1) := by decide +kernel
theorem dL_law_836 : decode cL_law 836 = .ok (.invokestatic 277, 3) := by decide +kernel
theorem dL_law_839 : decode cL_law 839 = .ok (.if_icmp .ne 12, 3) := by decide +kernel
theorem dL_law_842 : decode cL_law 842 = .ok (.aload 8, 2) := by decide +kernel
theorem dL_law_844 : decode cL_law 844 = .ok (.invokestatic 280, 3) := by decide +kernel
theorem dL_law_847 : decode cL_law 847 = .ok (.iconst (-1), 1) := by decide +kernel
theorem dL_law_848 : decode cL_law 848 = .ok (.if_icmp .eq 5, 3) := by decide +kernel
theorem dL_law_851 : decode cL_law 851 = .ok (.iconst 0, 1) := by decide +kernel
theorem dL_law_852 : decode cL_law 852 = .ok (.ireturn, 1) := by decide +kernel
theorem dL_law_853 : decode cL_law 853 = .ok (.aload 8, 2) := by decide +kernel
theorem dL_law_855 : decode cL_law 855 = .ok (.iconst 1, 1) := by decide +kernel
theorem dL_law_856 : decode cL_law 856 = .ok (.invokevirtual 52, 3) := by decide +kernel
theorem dL_law_859 : decode cL_law 859 = .ok (.ifCond .ne 204, 3) := by decide +kernel
theorem dL_law_862 : decode cL_law 862 = .ok (.aload 8, 2) := by decide +kernel
theorem dL_law_864 : decode cL_law 864 = .ok (.iconst 0, 1) := by decide +kernel
theorem dL_law_865 : decode cL_law 865 = .ok (.invokevirtual 283, 3) := by decide +kernel
theorem dL_law_868 : decode cL_law 868 = .ok (.ifCond .eq 195, 3) := by decide +kernel
theorem dL_law_871 : decode cL_law 871 = .ok (.aload 8, 2) := by decide +kernel
theorem dL_law_873 : decode cL_law 873 = .ok (.iconst 1, 1) := by decide +kernel
theorem dL_law_874 : decode cL_law 874 = .ok (.iconst 3, 1) := by decide +kernel
theorem dL_law_875 : decode cL_law 875 = .ok (.invokevirtual 42, 3) := by decide +kernel
theorem dL_law_878 : decode cL_law 878 = .ok (.iconst 1, 1) := by decide +kernel
theorem dL_law_879 : decode cL_law 879 = .ok (.if_icmp .ne 184, 3) := by decide +kernel
theorem dL_law_882 : decode cL_law 882 = .ok (.aload 8, 2) := by decide +kernel
theorem dL_law_884 : decode cL_law 884 = .ok (.iconst 1, 1) := by decide +kernel
theorem dL_law_885 : decode cL_law 885 = .ok (.invokevirtual 58, 3) := by decide +kernel
theorem dL_law_888 : decode cL_law 888 = .ok (.bipush 10, 2) := by decide +kernel
theorem dL_law_890 : decode cL_law 890 = .ok (.if_icmp .ne 173, 3) := by decide +kernel
theorem dL_law_893 : decode cL_law 893 = .ok (.aload 8, 2) := by decide +kernel
theorem dL_law_895 : decode cL_law 895 = .ok (.iconst 0, 1) := by decide +kernel
theorem dL_law_896 : decode cL_law 896 = .ok (.invokevirtual 71, 3) := by decide +kernel
theorem dL_law_899 : decode cL_law 899 = .ok (.ifCond .ne 164, 3) := by decide +kernel
theorem dL_law_902 : decode cL_law 902 = .ok (.aload 8, 2) := by decide +kernel
theorem dL_law_904 : decode cL_law 904 = .ok (.iconst 0, 1) := by decide +kernel
theorem dL_law_905 : decode cL_law 905 = .ok (.invokevirtual 119, 3) := by decide +kernel
theorem dL_law_908 : decode cL_law 908 = .ok (.bipush 10, 2) := by decide +kernel
theorem dL_law_910 : decode cL_law 910 = .ok (.if_icmp .ne 153, 3) := by decide +kernel
theorem dL_law_913 : decode cL_law 913 = .ok (.aload 8, 2) := by decide +kernel
theorem dL_law_915 : decode cL_law 915 = .ok (.iconst 0, 1) := by decide +kernel
theorem dL_law_916 : decode cL_law 916 = .ok (.invokevirtual 101, 3) := by decide +kernel
theorem dL_law_919 : decode cL_law 919 = .ok (.iload 7, 2) := by decide +kernel
theorem dL_law_921 : decode cL_law 921 = .ok (.bipush 12, 2) := by decide +kernel
theorem dL_law_923 : decode cL_law 923 = .ok (.isub, 1) := by decide +kernel
theorem dL_law_924 : decode cL_law 924 = .ok (.if_icmp .ne 139, 3) := by decide +kernel
theorem dL_law_927 : decode cL_law 927 = .ok (.aload 8, 2) := by decide +kernel
theorem dL_law_929 : decode cL_law 929 = .ok (.iconst 0, 1) := by decide +kernel
theorem dL_law_930 : decode cL_law 930 = .ok (.invokevirtual 286, 3) := by decide +kernel
theorem dL_law_933 : decode cL_law 933 = .ok (.ifCond .ne 130, 3) := by decide +kernel
theorem dL_law_936 : decode cL_law 936 = .ok (.aload 8, 2) := by decide +kernel
theorem dL_law_938 : decode cL_law 938 = .ok (.iconst 1, 1) := by decide +kernel
theorem dL_law_939 : decode cL_law 939 = .ok (.invokevirtual 58, 3) := by decide +kernel
theorem dL_law_942 : decode cL_law 942 = .ok (.bipush 10, 2) := by decide +kernel
theorem dL_law_944 : decode cL_law 944 = .ok (.iload 7, 2) := by decide +kernel
theorem dL_law_946 : decode cL_law 946 = .ok (.bipush 12, 2) := by decide +kernel
theorem dL_law_948 : decode cL_law 948 = .ok (.isub, 1) := by decide +kernel
theorem dL_law_949 : decode cL_law 949 = .ok (.invokestatic 289, 3) := by decide +kernel
theorem dL_law_952 : decode cL_law 952 = .ok (.if_icmp .ne 111, 3) := by decide +kernel
theorem dL_law_955 : decode cL_law 955 = .ok (.aload 8, 2) := by decide +kernel
theorem dL_law_957 : decode cL_law 957 = .ok (.iconst 0, 1) := by decide +kernel
theorem dL_law_958 : decode cL_law 958 = .ok (.invokevirtual 119, 3) := by decide +kernel
theorem dL_law_961 : decode cL_law 961 = .ok (.bipush 15, 2) := by decide +kernel
theorem dL_law_963 : decode cL_law 963 = .ok (.if_icmp .ne 100, 3) := by decide +kernel
theorem dL_law_966 : decode cL_law 966 = .ok (.aload 8, 2) := by decide +kernel
theorem dL_law_968 : decode cL_law 968 = .ok (.iconst 0, 1) := by decide +kernel
theorem dL_law_969 : decode cL_law 969 = .ok (.invokevirtual 286, 3) := by decide +kernel
theorem dL_law_972 : decode cL_law 972 = .ok (.ifCond .eq 91, 3) := by decide +kernel
theorem dL_law_975 : decode cL_law 975 = .ok (.aload 8, 2) := by decide +kernel
theorem dL_law_977 : decode cL_law 977 = .ok (.iconst 0, 1) := by decide +kernel
theorem dL_law_978 : decode cL_law 978 = .ok (.invokevirtual 294, 3) := by decide +kernel
theorem dL_law_981 : decode cL_law 981 = .ok (.ifCond .ne 82, 3) := by decide +kernel
theorem dL_law_984 : decode cL_law 984 = .ok (.aload 8, 2) := by decide +kernel
theorem dL_law_986 : decode cL_law 986 = .ok (.iconst 0, 1) := by decide +kernel
theorem dL_law_987 : decode cL_law 987 = .ok (.invokevirtual 49, 3) := by decide +kernel
theorem dL_law_990 : decode cL_law 990 = .ok (.bipush 15, 2) := by decide +kernel
theorem dL_law_992 : decode cL_law 992 = .ok (.if_icmp .ne 71, 3) := by decide +kernel
theorem dL_law_995 : decode cL_law 995 = .ok (.aload 8, 2) := by decide +kernel
theorem dL_law_997 : decode cL_law 997 = .ok (.iconst 0, 1) := by decide +kernel
theorem dL_law_998 : decode cL_law 998 = .ok (.invokevirtual 286, 3) := by decide +kernel
theorem dL_law_1001 : decode cL_law 1001 = .ok (.ifCond .ne 62, 3) := by decide +kernel
theorem dL_law_1004 : decode cL_law 1004 = .ok (.aload 8, 2) := by decide +kernel
theorem dL_law_1006 : decode cL_law 1006 = .ok (.invokevirtual 177, 3) := by decide +kernel
theorem dL_law_1009 : decode cL_law 1009 = .ok (.ifCond .lt 54, 3) := by decide +kernel
theorem dL_law_1012 : decode cL_law 1012 = .ok (.aload 8, 2) := by decide +kernel
theorem dL_law_1014 : decode cL_law 1014 = .ok (.iconst 0, 1) := by decide +kernel
theorem dL_law_1015 : decode cL_law 1015 = .ok (.invokevirtual 286, 3) := by decide +kernel
theorem dL_law_1018 : decode cL_law 1018 = .ok (.ifCond .eq 45, 3) := by decide +kernel
theorem dL_law_1021 : decode cL_law 1021 = .ok (.aload 8, 2) := by decide +kernel
theorem dL_law_1023 : decode cL_law 1023 = .ok (.invokevirtual 216, 3) := by decide +kernel
theorem dL_law_1026 : decode cL_law 1026 = .ok (.ifCond .eq 37, 3) := by decide +kernel
theorem dL_law_1029 : decode cL_law 1029 = .ok (.aload 8, 2) := by decide +kernel
theorem dL_law_1031 : decode cL_law 1031 = .ok (.invokevirtual 107, 3) := by decide +kernel
theorem dL_law_1034 : decode cL_law 1034 = .ok (.bipush 23, 2) := by decide +kernel
theorem dL_law_1036 : decode cL_law 1036 = .ok (.bipush 10, 2) := by decide +kernel
theorem dL_law_1038 : decode cL_law 1038 = .ok (.iload 7, 2) := by decide +kernel
theorem dL_law_1040 : decode cL_law 1040 = .ok (.bipush 12, 2) := by decide +kernel
theorem dL_law_1042 : decode cL_law 1042 = .ok (.isub, 1) := by decide +kernel
theorem dL_law_1043 : decode cL_law 1043 = .ok (.invokestatic 289, 3) := by decide +kernel
theorem dL_law_1046 : decode cL_law 1046 = .ok (.iadd, 1) := by decide +kernel
theorem dL_law_1047 : decode cL_law 1047 = .ok (.if_icmp .ne 16, 3) := by decide +kernel
theorem dL_law_1050 : decode cL_law 1050 = .ok (.aload 8, 2) := by decide +kernel
theorem dL_law_1052 : decode cL_law 1052 = .ok (.invokevirtual 297, 3) := by decide +kernel
theorem dL_law_1055 : decode cL_law 1055 = .ok (.aload 8, 2) := by decide +kernel
theorem dL_law_1057 : decode cL_law 1057 = .ok (.invokevirtual 107, 3) := by decide +kernel
theorem dL_law_1060 : decode cL_law 1060 = .ok (.if_icmp .eq 5, 3) := by decide +kernel
theorem dL_law_1063 : decode cL_law 1063 = .ok (.iconst 0, 1) := by decide +kernel
theorem dL_law_1064 : decode cL_law 1064 = .ok (.ireturn, 1) := by decide +kernel
theorem dL_law_1065 : decode cL_law 1065 = .ok (.aload_n 1, 1) := by decide +kernel
theorem dL_law_1066 : decode cL_law 1066 = .ok (.invokevirtual 300, 3) := by decide +kernel
theorem dL_law_1069 : decode cL_law 1069 = .ok (.iload_n 3, 1) := by decide +kernel
theorem dL_law_1070 : decode cL_law 1070 = .ok (.if_icmp .ne 16, 3) := by decide +kernel
theorem dL_law_1073 : decode cL_law 1073 = .ok (.aload_n 1, 1) := by decide +kernel
theorem dL_law_1074 : decode cL_law 1074 = .ok (.invokestatic 164, 3) := by decide +kernel
theorem dL_law_1077 : decode cL_law 1077 = .ok (.iload 4, 2) := by decide +kernel
theorem dL_law_1079 : decode cL_law 1079 = .ok (.if_icmp .ne 7, 3) := by decide +kernel
theorem dL_law_1082 : decode cL_law 1082 = .ok (.iconst 1, 1) := by decide +kernel
theorem dL_law_1083 : decode cL_law 1083 = .ok (.goto 4, 3) := by decide +kernel
theorem dL_law_1086 : decode cL_law 1086 = .ok (.iconst 0, 1) := by decide +kernel
theorem dL_law_1087 : decode cL_law 1087 = .ok (.ireturn, 1) := by decide +kernel
