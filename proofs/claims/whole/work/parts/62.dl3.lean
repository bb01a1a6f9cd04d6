/-! decode rows of the law -/
theorem d_L_law_894 : decode code 894 = .ok (.iload 4, 2) := by decide +kernel
theorem d_L_law_896 : decode code 896 = .ok (.iconst 1, 1) := by decide +kernel
theorem d_L_law_897 : decode code 897 = .ok (.iadd, 1) := by decide +kernel
theorem d_L_law_898 : decode code 898 = .ok (.iaload, 1) := by decide +kernel
theorem d_L_law_899 : decode code 899 = .ok (.aload_n 0, 1) := by decide +kernel
theorem d_L_law_900 : decode code 900 = .ok (.iload 4, 2) := by decide +kernel
theorem d_L_law_902 : decode code 902 = .ok (.iconst 2, 1) := by decide +kernel
theorem d_L_law_903 : decode code 903 = .ok (.iadd, 1) := by decide +kernel
theorem d_L_law_904 : decode code 904 = .ok (.iaload, 1) := by decide +kernel
theorem d_L_law_905 : decode code 905 = .ok (.aload_n 3, 1) := by decide +kernel
theorem d_L_law_906 : decode code 906 = .ok (.invokestatic 140, 3) := by decide +kernel
theorem d_L_law_909 : decode code 909 = .ok (.istore 5, 2) := by decide +kernel
theorem d_L_law_911 : decode code 911 = .ok (.aload_n 2, 1) := by decide +kernel
theorem d_L_law_912 : decode code 912 = .ok (.aload_n 0, 1) := by decide +kernel
theorem d_L_law_913 : decode code 913 = .ok (.iload 4, 2) := by decide +kernel
theorem d_L_law_915 : decode code 915 = .ok (.iconst 1, 1) := by decide +kernel
theorem d_L_law_916 : decode code 916 = .ok (.iadd, 1) := by decide +kernel
theorem d_L_law_917 : decode code 917 = .ok (.iaload, 1) := by decide +kernel
theorem d_L_law_918 : decode code 918 = .ok (.aload_n 0, 1) := by decide +kernel
theorem d_L_law_919 : decode code 919 = .ok (.iload 4, 2) := by decide +kernel
theorem d_L_law_921 : decode code 921 = .ok (.iconst 2, 1) := by decide +kernel
theorem d_L_law_922 : decode code 922 = .ok (.iadd, 1) := by decide +kernel
theorem d_L_law_923 : decode code 923 = .ok (.iaload, 1) := by decide +kernel
theorem d_L_law_924 : decode code 924 = .ok (.invokevirtual 142, 3) := by decide +kernel
theorem d_L_law_927 : decode code 927 = .ok (.istore 6, 2) := by decide +kernel
theorem d_L_law_929 : decode code 929 = .ok (.aload_n 2, 1) := by decide +kernel
theorem d_L_law_930 : decode code 930 = .ok (.invokevirtual 109, 3) := by decide +kernel
theorem d_L_law_933 : decode code 933 = .ok (.iload 5, 2) := by decide +kernel
theorem d_L_law_935 : decode code 935 = .ok (.if_icmp .eq 5, 3) := by decide +kernel
theorem d_L_law_938 : decode code 938 = .ok (.iconst 0, 1) := by decide +kernel
theorem d_L_law_939 : decode code 939 = .ok (.ireturn, 1) := by decide +kernel
theorem d_L_law_940 : decode code 940 = .ok (.iload 5, 2) := by decide +kernel
theorem d_L_law_942 : decode code 942 = .ok (.ifCond .ne 15, 3) := by decide +kernel
theorem d_L_law_945 : decode code 945 = .ok (.aload_n 3, 1) := by decide +kernel
theorem d_L_law_946 : decode code 946 = .ok (.iconst 0, 1) := by decide +kernel
theorem d_L_law_947 : decode code 947 = .ok (.laload, 1) := by decide +kernel
theorem d_L_law_948 : decode code 948 = .ok (.iload 6, 2) := by decide +kernel
theorem d_L_law_950 : decode code 950 = .ok (.i2l, 1) := by decide +kernel
theorem d_L_law_951 : decode code 951 = .ok (.lcmp, 1) := by decide +kernel
theorem d_L_law_952 : decode code 952 = .ok (.ifCond .eq 5, 3) := by decide +kernel
theorem d_L_law_955 : decode code 955 = .ok (.iconst 0, 1) := by decide +kernel
theorem d_L_law_956 : decode code 956 = .ok (.ireturn, 1) := by decide +kernel
theorem d_L_law_957 : decode code 957 = .ok (.goto 743, 3) := by decide +kernel
theorem d_L_law_960 : decode code 960 = .ok (.aload_n 1, 1) := by decide +kernel
theorem d_L_law_961 : decode code 961 = .ok (.aload_n 0, 1) := by decide +kernel
theorem d_L_law_962 : decode code 962 = .ok (.iload 4, 2) := by decide +kernel
theorem d_L_law_964 : decode code 964 = .ok (.iconst 1, 1) := by decide +kernel
theorem d_L_law_965 : decode code 965 = .ok (.iadd, 1) := by decide +kernel
theorem d_L_law_966 : decode code 966 = .ok (.iaload, 1) := by decide +kernel
theorem d_L_law_967 : decode code 967 = .ok (.aload_n 0, 1) := by decide +kernel
theorem d_L_law_968 : decode code 968 = .ok (.iload 4, 2) := by decide +kernel
theorem d_L_law_970 : decode code 970 = .ok (.iconst 2, 1) := by decide +kernel
theorem d_L_law_971 : decode code 971 = .ok (.iadd, 1) := by decide +kernel
theorem d_L_law_972 : decode code 972 = .ok (.iaload, 1) := by decide +kernel
theorem d_L_law_973 : decode code 973 = .ok (.aload_n 3, 1) := by decide +kernel
theorem d_L_law_974 : decode code 974 = .ok (.invokestatic 143, 3) := by decide +kernel
theorem d_L_law_977 : decode code 977 = .ok (.istore 5, 2) := by decide +kernel
theorem d_L_law_979 : decode code 979 = .ok (.aload_n 2, 1) := by decide +kernel
theorem d_L_law_980 : decode code 980 = .ok (.aload_n 0, 1) := by decide +kernel
theorem d_L_law_981 : decode code 981 = .ok (.iload 4, 2) := by decide +kernel
theorem d_L_law_983 : decode code 983 = .ok (.iconst 1, 1) := by decide +kernel
theorem d_L_law_984 : decode code 984 = .ok (.iadd, 1) := by decide +kernel
theorem d_L_law_985 : decode code 985 = .ok (.iaload, 1) := by decide +kernel
theorem d_L_law_986 : decode code 986 = .ok (.aload_n 0, 1) := by decide +kernel
theorem d_L_law_987 : decode code 987 = .ok (.iload 4, 2) := by decide +kernel
theorem d_L_law_989 : decode code 989 = .ok (.iconst 2, 1) := by decide +kernel
theorem d_L_law_990 : decode code 990 = .ok (.iadd, 1) := by decide +kernel
theorem d_L_law_991 : decode code 991 = .ok (.iaload, 1) := by decide +kernel
theorem d_L_law_992 : decode code 992 = .ok (.invokevirtual 145, 3) := by decide +kernel
theorem d_L_law_995 : decode code 995 = .ok (.lstore 6, 2) := by decide +kernel
theorem d_L_law_997 : decode code 997 = .ok (.aload_n 2, 1) := by decide +kernel
theorem d_L_law_998 : decode code 998 = .ok (.invokevirtual 109, 3) := by decide +kernel
theorem d_L_law_1001 : decode code 1001 = .ok (.iload 5, 2) := by decide +kernel
theorem d_L_law_1003 : decode code 1003 = .ok (.if_icmp .eq 5, 3) := by decide +kernel
theorem d_L_law_1006 : decode code 1006 = .ok (.iconst 0, 1) := by decide +kernel
theorem d_L_law_1007 : decode code 1007 = .ok (.ireturn, 1) := by decide +kernel
theorem d_L_law_1008 : decode code 1008 = .ok (.iload 5, 2) := by decide +kernel
theorem d_L_law_1010 : decode code 1010 = .ok (.ifCond .ne 14, 3) := by decide +kernel
theorem d_L_law_1013 : decode code 1013 = .ok (.aload_n 3, 1) := by decide +kernel
theorem d_L_law_1014 : decode code 1014 = .ok (.iconst 0, 1) := by decide +kernel
theorem d_L_law_1015 : decode code 1015 = .ok (.laload, 1) := by decide +kernel
theorem d_L_law_1016 : decode code 1016 = .ok (.lload 6, 2) := by decide +kernel
theorem d_L_law_1018 : decode code 1018 = .ok (.lcmp, 1) := by decide +kernel
theorem d_L_law_1019 : decode code 1019 = .ok (.ifCond .eq 5, 3) := by decide +kernel
theorem d_L_law_1022 : decode code 1022 = .ok (.iconst 0, 1) := by decide +kernel
theorem d_L_law_1023 : decode code 1023 = .ok (.ireturn, 1) := by decide +kernel
theorem d_L_law_1024 : decode code 1024 = .ok (.goto 676, 3) := by decide +kernel
theorem d_L_law_1027 : decode code 1027 = .ok (.aload_n 1, 1) := by decide +kernel
theorem d_L_law_1028 : decode code 1028 = .ok (.aload_n 0, 1) := by decide +kernel
theorem d_L_law_1029 : decode code 1029 = .ok (.iload 4, 2) := by decide +kernel
theorem d_L_law_1031 : decode code 1031 = .ok (.iconst 1, 1) := by decide +kernel
theorem d_L_law_1032 : decode code 1032 = .ok (.iadd, 1) := by decide +kernel
theorem d_L_law_1033 : decode code 1033 = .ok (.iaload, 1) := by decide +kernel
theorem d_L_law_1034 : decode code 1034 = .ok (.aload_n 3, 1) := by decide +kernel
theorem d_L_law_1035 : decode code 1035 = .ok (.invokestatic 146, 3) := by decide +kernel
theorem d_L_law_1038 : decode code 1038 = .ok (.istore 5, 2) := by decide +kernel
theorem d_L_law_1040 : decode code 1040 = .ok (.aload_n 2, 1) := by decide +kernel
theorem d_L_law_1041 : decode code 1041 = .ok (.aload_n 0, 1) := by decide +kernel
theorem d_L_law_1042 : decode code 1042 = .ok (.iload 4, 2) := by decide +kernel
theorem d_L_law_1044 : decode code 1044 = .ok (.iconst 1, 1) := by decide +kernel
theorem d_L_law_1045 : decode code 1045 = .ok (.iadd, 1) := by decide +kernel
theorem d_L_law_1046 : decode code 1046 = .ok (.iaload, 1) := by decide +kernel
theorem d_L_law_1047 : decode code 1047 = .ok (.invokevirtual 149, 3) := by decide +kernel
theorem d_L_law_1050 : decode code 1050 = .ok (.lstore 6, 2) := by decide +kernel
theorem d_L_law_1052 : decode code 1052 = .ok (.aload_n 2, 1) := by decide +kernel
theorem d_L_law_1053 : decode code 1053 = .ok (.invokevirtual 109, 3) := by decide +kernel
theorem d_L_law_1056 : decode code 1056 = .ok (.iload 5, 2) := by decide +kernel
theorem d_L_law_1058 : decode code 1058 = .ok (.if_icmp .eq 5, 3) := by decide +kernel
theorem d_L_law_1061 : decode code 1061 = .ok (.iconst 0, 1) := by decide +kernel
theorem d_L_law_1062 : decode code 1062 = .ok (.ireturn, 1) := by decide +kernel
theorem d_L_law_1063 : decode code 1063 = .ok (.iload 5, 2) := by decide +kernel
theorem d_L_law_1065 : decode code 1065 = .ok (.ifCond .ne 14, 3) := by decide +kernel
theorem d_L_law_1068 : decode code 1068 = .ok (.aload_n 3, 1) := by decide +kernel
theorem d_L_law_1069 : decode code 1069 = .ok (.iconst 0, 1) := by decide +kernel
theorem d_L_law_1070 : decode code 1070 = .ok (.laload, 1) := by decide +kernel
theorem d_L_law_1071 : decode code 1071 = .ok (.lload 6, 2) := by decide +kernel
theorem d_L_law_1073 : decode code 1073 = .ok (.lcmp, 1) := by decide +kernel
theorem d_L_law_1074 : decode code 1074 = .ok (.ifCond .eq 5, 3) := by decide +kernel
theorem d_L_law_1077 : decode code 1077 = .ok (.iconst 0, 1) := by decide +kernel
theorem d_L_law_1078 : decode code 1078 = .ok (.ireturn, 1) := by decide +kernel
theorem d_L_law_1079 : decode code 1079 = .ok (.goto 621, 3) := by decide +kernel
theorem d_L_law_1082 : decode code 1082 = .ok (.aload_n 1, 1) := by decide +kernel
theorem d_L_law_1083 : decode code 1083 = .ok (.aload_n 0, 1) := by decide +kernel
theorem d_L_law_1084 : decode code 1084 = .ok (.iload 4, 2) := by decide +kernel
theorem d_L_law_1086 : decode code 1086 = .ok (.iconst 1, 1) := by decide +kernel
theorem d_L_law_1087 : decode code 1087 = .ok (.iadd, 1) := by decide +kernel
theorem d_L_law_1088 : decode code 1088 = .ok (.iaload, 1) := by decide +kernel
theorem d_L_law_1089 : decode code 1089 = .ok (.aload_n 3, 1) := by decide +kernel
theorem d_L_law_1090 : decode code 1090 = .ok (.invokestatic 150, 3) := by decide +kernel
theorem d_L_law_1093 : decode code 1093 = .ok (.istore 5, 2) := by decide +kernel
theorem d_L_law_1095 : decode code 1095 = .ok (.aload_n 2, 1) := by decide +kernel
theorem d_L_law_1096 : decode code 1096 = .ok (.aload_n 0, 1) := by decide +kernel
theorem d_L_law_1097 : decode code 1097 = .ok (.iload 4, 2) := by decide +kernel
theorem d_L_law_1099 : decode code 1099 = .ok (.iconst 1, 1) := by decide +kernel
theorem d_L_law_1100 : decode code 1100 = .ok (.iadd, 1) := by decide +kernel
theorem d_L_law_1101 : decode code 1101 = .ok (.iaload, 1) := by decide +kernel
theorem d_L_law_1102 : decode code 1102 = .ok (.invokevirtual 152, 3) := by decide +kernel
theorem d_L_law_1105 : decode code 1105 = .ok (.lstore 6, 2) := by decide +kernel
theorem d_L_law_1107 : decode code 1107 = .ok (.aload_n 2, 1) := by decide +kernel
theorem d_L_law_1108 : decode code 1108 = .ok (.invokevirtual 109, 3) := by decide +kernel
theorem d_L_law_1111 : decode code 1111 = .ok (.iload 5, 2) := by decide +kernel
theorem d_L_law_1113 : decode code 1113 = .ok (.if_icmp .eq 5, 3) := by decide +kernel
theorem d_L_law_1116 : decode code 1116 = .ok (.iconst 0, 1) := by decide +kernel
theorem d_L_law_1117 : decode code 1117 = .ok (.ireturn, 1) := by decide +kernel
theorem d_L_law_1118 : decode code 1118 = .ok (.iload 5, 2) := by decide +kernel
theorem d_L_law_1120 : decode code 1120 = .ok (.ifCond .ne 14, 3) := by decide +kernel
theorem d_L_law_1123 : decode code 1123 = .ok (.aload_n 3, 1) := by decide +kernel
theorem d_L_law_1124 : decode code 1124 = .ok (.iconst 0, 1) := by decide +kernel
theorem d_L_law_1125 : decode code 1125 = .ok (.laload, 1) := by decide +kernel
theorem d_L_law_1126 : decode code 1126 = .ok (.lload 6, 2) := by decide +kernel
theorem d_L_law_1128 : decode code 1128 = .ok (.lcmp, 1) := by decide +kernel
theorem d_L_law_1129 : decode code 1129 = .ok (.ifCond .eq 5, 3) := by decide +kernel
theorem d_L_law_1132 : decode code 1132 = .ok (.iconst 0, 1) := by decide +kernel
theorem d_L_law_1133 : decode code 1133 = .ok (.ireturn, 1) := by decide +kernel
theorem d_L_law_1134 : decode code 1134 = .ok (.goto 566, 3) := by decide +kernel
theorem d_L_law_1137 : decode code 1137 = .ok (.aload_n 1, 1) := by decide +kernel
theorem d_L_law_1138 : decode code 1138 = .ok (.aload_n 0, 1) := by decide +kernel
theorem d_L_law_1139 : decode code 1139 = .ok (.iload 4, 2) := by decide +kernel
theorem d_L_law_1141 : decode code 1141 = .ok (.iconst 1, 1) := by decide +kernel
theorem d_L_law_1142 : decode code 1142 = .ok (.iadd, 1) := by decide +kernel
theorem d_L_law_1143 : decode code 1143 = .ok (.iaload, 1) := by decide +kernel
theorem d_L_law_1144 : decode code 1144 = .ok (.aload_n 3, 1) := by decide +kernel
theorem d_L_law_1145 : decode code 1145 = .ok (.invokestatic 153, 3) := by decide +kernel
theorem d_L_law_1148 : decode code 1148 = .ok (.istore 5, 2) := by decide +kernel
theorem d_L_law_1150 : decode code 1150 = .ok (.aload_n 2, 1) := by decide +kernel
theorem d_L_law_1151 : decode code 1151 = .ok (.aload_n 0, 1) := by decide +kernel
theorem d_L_law_1152 : decode code 1152 = .ok (.iload 4, 2) := by decide +kernel
theorem d_L_law_1154 : decode code 1154 = .ok (.iconst 1, 1) := by decide +kernel
theorem d_L_law_1155 : decode code 1155 = .ok (.iadd, 1) := by decide +kernel
theorem d_L_law_1156 : decode code 1156 = .ok (.iaload, 1) := by decide +kernel
theorem d_L_law_1157 : decode code 1157 = .ok (.invokevirtual 155, 3) := by decide +kernel
theorem d_L_law_1160 : decode code 1160 = .ok (.istore 6, 2) := by decide +kernel
theorem d_L_law_1162 : decode code 1162 = .ok (.aload_n 2, 1) := by decide +kernel
theorem d_L_law_1163 : decode code 1163 = .ok (.invokevirtual 109, 3) := by decide +kernel
theorem d_L_law_1166 : decode code 1166 = .ok (.iload 5, 2) := by decide +kernel
theorem d_L_law_1168 : decode code 1168 = .ok (.if_icmp .eq 5, 3) := by decide +kernel
theorem d_L_law_1171 : decode code 1171 = .ok (.iconst 0, 1) := by decide +kernel
theorem d_L_law_1172 : decode code 1172 = .ok (.ireturn, 1) := by decide +kernel
theorem d_L_law_1173 : decode code 1173 = .ok (.iload 5, 2) := by decide +kernel
theorem d_L_law_1175 : decode code 1175 = .ok (.ifCond .ne 15, 3) := by decide +kernel
