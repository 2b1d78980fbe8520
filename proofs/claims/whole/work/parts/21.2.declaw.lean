theorem dW_law_878 : decode code 878 = .ok (.iadd, 1) := by decide +kernel
theorem dW_law_879 : decode code 879 = .ok (.iaload, 1) := by decide +kernel
theorem dW_law_880 : decode code 880 = .ok (.invokevirtual 125, 3) := by decide +kernel
theorem dW_law_883 : decode code 883 = .ok (.istore 6, 2) := by decide +kernel
theorem dW_law_885 : decode code 885 = .ok (.aload_n 2, 1) := by decide +kernel
theorem dW_law_886 : decode code 886 = .ok (.invokevirtual 82, 3) := by decide +kernel
theorem dW_law_889 : decode code 889 = .ok (.iload 5, 2) := by decide +kernel
theorem dW_law_891 : decode code 891 = .ok (.if_icmp .eq 5, 3) := by decide +kernel
theorem dW_law_894 : decode code 894 = .ok (.iconst 0, 1) := by decide +kernel
theorem dW_law_895 : decode code 895 = .ok (.ireturn, 1) := by decide +kernel
theorem dW_law_896 : decode code 896 = .ok (.iload 5, 2) := by decide +kernel
theorem dW_law_898 : decode code 898 = .ok (.ifCond .ne 15, 3) := by decide +kernel
theorem dW_law_901 : decode code 901 = .ok (.aload_n 3, 1) := by decide +kernel
theorem dW_law_902 : decode code 902 = .ok (.iconst 0, 1) := by decide +kernel
theorem dW_law_903 : decode code 903 = .ok (.laload, 1) := by decide +kernel
theorem dW_law_904 : decode code 904 = .ok (.iload 6, 2) := by decide +kernel
theorem dW_law_906 : decode code 906 = .ok (.i2l, 1) := by decide +kernel
theorem dW_law_907 : decode code 907 = .ok (.lcmp, 1) := by decide +kernel
theorem dW_law_908 : decode code 908 = .ok (.ifCond .eq 5, 3) := by decide +kernel
theorem dW_law_911 : decode code 911 = .ok (.iconst 0, 1) := by decide +kernel
theorem dW_law_912 : decode code 912 = .ok (.ireturn, 1) := by decide +kernel
theorem dW_law_913 : decode code 913 = .ok (.goto 338, 3) := by decide +kernel
theorem dW_law_916 : decode code 916 = .ok (.aload_n 1, 1) := by decide +kernel
theorem dW_law_917 : decode code 917 = .ok (.aload_n 0, 1) := by decide +kernel
theorem dW_law_918 : decode code 918 = .ok (.iload 4, 2) := by decide +kernel
theorem dW_law_920 : decode code 920 = .ok (.iconst 1, 1) := by decide +kernel
theorem dW_law_921 : decode code 921 = .ok (.iadd, 1) := by decide +kernel
theorem dW_law_922 : decode code 922 = .ok (.iaload, 1) := by decide +kernel
theorem dW_law_923 : decode code 923 = .ok (.aload_n 0, 1) := by decide +kernel
theorem dW_law_924 : decode code 924 = .ok (.iload 4, 2) := by decide +kernel
theorem dW_law_926 : decode code 926 = .ok (.iconst 2, 1) := by decide +kernel
theorem dW_law_927 : decode code 927 = .ok (.iadd, 1) := by decide +kernel
theorem dW_law_928 : decode code 928 = .ok (.iaload, 1) := by decide +kernel
theorem dW_law_929 : decode code 929 = .ok (.aload_n 3, 1) := by decide +kernel
theorem dW_law_930 : decode code 930 = .ok (.invokestatic 126, 3) := by decide +kernel
theorem dW_law_933 : decode code 933 = .ok (.istore 5, 2) := by decide +kernel
theorem dW_law_935 : decode code 935 = .ok (.aload_n 2, 1) := by decide +kernel
theorem dW_law_936 : decode code 936 = .ok (.aload_n 0, 1) := by decide +kernel
theorem dW_law_937 : decode code 937 = .ok (.iload 4, 2) := by decide +kernel
theorem dW_law_939 : decode code 939 = .ok (.iconst 1, 1) := by decide +kernel
theorem dW_law_940 : decode code 940 = .ok (.iadd, 1) := by decide +kernel
theorem dW_law_941 : decode code 941 = .ok (.iaload, 1) := by decide +kernel
theorem dW_law_942 : decode code 942 = .ok (.aload_n 0, 1) := by decide +kernel
theorem dW_law_943 : decode code 943 = .ok (.iload 4, 2) := by decide +kernel
theorem dW_law_945 : decode code 945 = .ok (.iconst 2, 1) := by decide +kernel
theorem dW_law_946 : decode code 946 = .ok (.iadd, 1) := by decide +kernel
theorem dW_law_947 : decode code 947 = .ok (.iaload, 1) := by decide +kernel
theorem dW_law_948 : decode code 948 = .ok (.invokevirtual 128, 3) := by decide +kernel
theorem dW_law_951 : decode code 951 = .ok (.istore 6, 2) := by decide +kernel
theorem dW_law_953 : decode code 953 = .ok (.aload_n 2, 1) := by decide +kernel
theorem dW_law_954 : decode code 954 = .ok (.invokevirtual 82, 3) := by decide +kernel
theorem dW_law_957 : decode code 957 = .ok (.iload 5, 2) := by decide +kernel
theorem dW_law_959 : decode code 959 = .ok (.if_icmp .eq 5, 3) := by decide +kernel
theorem dW_law_962 : decode code 962 = .ok (.iconst 0, 1) := by decide +kernel
theorem dW_law_963 : decode code 963 = .ok (.ireturn, 1) := by decide +kernel
theorem dW_law_964 : decode code 964 = .ok (.iload 5, 2) := by decide +kernel
theorem dW_law_966 : decode code 966 = .ok (.ifCond .ne 15, 3) := by decide +kernel
theorem dW_law_969 : decode code 969 = .ok (.aload_n 3, 1) := by decide +kernel
theorem dW_law_970 : decode code 970 = .ok (.iconst 0, 1) := by decide +kernel
theorem dW_law_971 : decode code 971 = .ok (.laload, 1) := by decide +kernel
theorem dW_law_972 : decode code 972 = .ok (.iload 6, 2) := by decide +kernel
theorem dW_law_974 : decode code 974 = .ok (.i2l, 1) := by decide +kernel
theorem dW_law_975 : decode code 975 = .ok (.lcmp, 1) := by decide +kernel
theorem dW_law_976 : decode code 976 = .ok (.ifCond .eq 5, 3) := by decide +kernel
theorem dW_law_979 : decode code 979 = .ok (.iconst 0, 1) := by decide +kernel
theorem dW_law_980 : decode code 980 = .ok (.ireturn, 1) := by decide +kernel
theorem dW_law_981 : decode code 981 = .ok (.goto 270, 3) := by decide +kernel
theorem dW_law_984 : decode code 984 = .ok (.aload_n 1, 1) := by decide +kernel
theorem dW_law_985 : decode code 985 = .ok (.aload_n 0, 1) := by decide +kernel
theorem dW_law_986 : decode code 986 = .ok (.iload 4, 2) := by decide +kernel
theorem dW_law_988 : decode code 988 = .ok (.iconst 1, 1) := by decide +kernel
theorem dW_law_989 : decode code 989 = .ok (.iadd, 1) := by decide +kernel
theorem dW_law_990 : decode code 990 = .ok (.iaload, 1) := by decide +kernel
theorem dW_law_991 : decode code 991 = .ok (.aload_n 3, 1) := by decide +kernel
theorem dW_law_992 : decode code 992 = .ok (.invokestatic 129, 3) := by decide +kernel
theorem dW_law_995 : decode code 995 = .ok (.istore 5, 2) := by decide +kernel
theorem dW_law_997 : decode code 997 = .ok (.aload_n 2, 1) := by decide +kernel
theorem dW_law_998 : decode code 998 = .ok (.aload_n 0, 1) := by decide +kernel
theorem dW_law_999 : decode code 999 = .ok (.iload 4, 2) := by decide +kernel
theorem dW_law_1001 : decode code 1001 = .ok (.iconst 1, 1) := by decide +kernel
theorem dW_law_1002 : decode code 1002 = .ok (.iadd, 1) := by decide +kernel
theorem dW_law_1003 : decode code 1003 = .ok (.iaload, 1) := by decide +kernel
theorem dW_law_1004 : decode code 1004 = .ok (.invokevirtual 131, 3) := by decide +kernel
theorem dW_law_1007 : decode code 1007 = .ok (.istore 6, 2) := by decide +kernel
theorem dW_law_1009 : decode code 1009 = .ok (.aload_n 2, 1) := by decide +kernel
theorem dW_law_1010 : decode code 1010 = .ok (.invokevirtual 82, 3) := by decide +kernel
theorem dW_law_1013 : decode code 1013 = .ok (.iload 5, 2) := by decide +kernel
theorem dW_law_1015 : decode code 1015 = .ok (.if_icmp .eq 5, 3) := by decide +kernel
theorem dW_law_1018 : decode code 1018 = .ok (.iconst 0, 1) := by decide +kernel
theorem dW_law_1019 : decode code 1019 = .ok (.ireturn, 1) := by decide +kernel
theorem dW_law_1020 : decode code 1020 = .ok (.iload 5, 2) := by decide +kernel
theorem dW_law_1022 : decode code 1022 = .ok (.ifCond .ne 15, 3) := by decide +kernel
theorem dW_law_1025 : decode code 1025 = .ok (.aload_n 3, 1) := by decide +kernel
theorem dW_law_1026 : decode code 1026 = .ok (.iconst 0, 1) := by decide +kernel
theorem dW_law_1027 : decode code 1027 = .ok (.laload, 1) := by decide +kernel
theorem dW_law_1028 : decode code 1028 = .ok (.iload 6, 2) := by decide +kernel
theorem dW_law_1030 : decode code 1030 = .ok (.i2l, 1) := by decide +kernel
theorem dW_law_1031 : decode code 1031 = .ok (.lcmp, 1) := by decide +kernel
theorem dW_law_1032 : decode code 1032 = .ok (.ifCond .eq 5, 3) := by decide +kernel
theorem dW_law_1035 : decode code 1035 = .ok (.iconst 0, 1) := by decide +kernel
theorem dW_law_1036 : decode code 1036 = .ok (.ireturn, 1) := by decide +kernel
theorem dW_law_1037 : decode code 1037 = .ok (.goto 214, 3) := by decide +kernel
theorem dW_law_1040 : decode code 1040 = .ok (.aload_n 1, 1) := by decide +kernel
theorem dW_law_1041 : decode code 1041 = .ok (.aload_n 0, 1) := by decide +kernel
theorem dW_law_1042 : decode code 1042 = .ok (.iload 4, 2) := by decide +kernel
theorem dW_law_1044 : decode code 1044 = .ok (.iconst 1, 1) := by decide +kernel
theorem dW_law_1045 : decode code 1045 = .ok (.iadd, 1) := by decide +kernel
theorem dW_law_1046 : decode code 1046 = .ok (.iaload, 1) := by decide +kernel
theorem dW_law_1047 : decode code 1047 = .ok (.aload_n 0, 1) := by decide +kernel
theorem dW_law_1048 : decode code 1048 = .ok (.iload 4, 2) := by decide +kernel
theorem dW_law_1050 : decode code 1050 = .ok (.iconst 2, 1) := by decide +kernel
theorem dW_law_1051 : decode code 1051 = .ok (.iadd, 1) := by decide +kernel
theorem dW_law_1052 : decode code 1052 = .ok (.iaload, 1) := by decide +kernel
theorem dW_law_1053 : decode code 1053 = .ok (.aload_n 0, 1) := by decide +kernel
theorem dW_law_1054 : decode code 1054 = .ok (.iload 4, 2) := by decide +kernel
theorem dW_law_1056 : decode code 1056 = .ok (.iconst 3, 1) := by decide +kernel
theorem dW_law_1057 : decode code 1057 = .ok (.iadd, 1) := by decide +kernel
theorem dW_law_1058 : decode code 1058 = .ok (.iaload, 1) := by decide +kernel
theorem dW_law_1059 : decode code 1059 = .ok (.aload_n 3, 1) := by decide +kernel
theorem dW_law_1060 : decode code 1060 = .ok (.invokestatic 132, 3) := by decide +kernel
theorem dW_law_1063 : decode code 1063 = .ok (.istore 5, 2) := by decide +kernel
theorem dW_law_1065 : decode code 1065 = .ok (.aload_n 2, 1) := by decide +kernel
theorem dW_law_1066 : decode code 1066 = .ok (.aload_n 0, 1) := by decide +kernel
theorem dW_law_1067 : decode code 1067 = .ok (.iload 4, 2) := by decide +kernel
theorem dW_law_1069 : decode code 1069 = .ok (.iconst 1, 1) := by decide +kernel
theorem dW_law_1070 : decode code 1070 = .ok (.iadd, 1) := by decide +kernel
theorem dW_law_1071 : decode code 1071 = .ok (.iaload, 1) := by decide +kernel
theorem dW_law_1072 : decode code 1072 = .ok (.aload_n 0, 1) := by decide +kernel
theorem dW_law_1073 : decode code 1073 = .ok (.iload 4, 2) := by decide +kernel
theorem dW_law_1075 : decode code 1075 = .ok (.iconst 2, 1) := by decide +kernel
theorem dW_law_1076 : decode code 1076 = .ok (.iadd, 1) := by decide +kernel
theorem dW_law_1077 : decode code 1077 = .ok (.iaload, 1) := by decide +kernel
theorem dW_law_1078 : decode code 1078 = .ok (.aload_n 0, 1) := by decide +kernel
theorem dW_law_1079 : decode code 1079 = .ok (.iload 4, 2) := by decide +kernel
theorem dW_law_1081 : decode code 1081 = .ok (.iconst 3, 1) := by decide +kernel
theorem dW_law_1082 : decode code 1082 = .ok (.iadd, 1) := by decide +kernel
theorem dW_law_1083 : decode code 1083 = .ok (.iaload, 1) := by decide +kernel
theorem dW_law_1084 : decode code 1084 = .ok (.invokevirtual 134, 3) := by decide +kernel
theorem dW_law_1087 : decode code 1087 = .ok (.istore 6, 2) := by decide +kernel
theorem dW_law_1089 : decode code 1089 = .ok (.aload_n 2, 1) := by decide +kernel
theorem dW_law_1090 : decode code 1090 = .ok (.invokevirtual 82, 3) := by decide +kernel
theorem dW_law_1093 : decode code 1093 = .ok (.iload 5, 2) := by decide +kernel
theorem dW_law_1095 : decode code 1095 = .ok (.if_icmp .eq 5, 3) := by decide +kernel
theorem dW_law_1098 : decode code 1098 = .ok (.iconst 0, 1) := by decide +kernel
theorem dW_law_1099 : decode code 1099 = .ok (.ireturn, 1) := by decide +kernel
theorem dW_law_1100 : decode code 1100 = .ok (.iload 5, 2) := by decide +kernel
theorem dW_law_1102 : decode code 1102 = .ok (.ifCond .ne 15, 3) := by decide +kernel
theorem dW_law_1105 : decode code 1105 = .ok (.aload_n 3, 1) := by decide +kernel
theorem dW_law_1106 : decode code 1106 = .ok (.iconst 0, 1) := by decide +kernel
theorem dW_law_1107 : decode code 1107 = .ok (.laload, 1) := by decide +kernel
theorem dW_law_1108 : decode code 1108 = .ok (.iload 6, 2) := by decide +kernel
theorem dW_law_1110 : decode code 1110 = .ok (.i2l, 1) := by decide +kernel
theorem dW_law_1111 : decode code 1111 = .ok (.lcmp, 1) := by decide +kernel
theorem dW_law_1112 : decode code 1112 = .ok (.ifCond .eq 5, 3) := by decide +kernel
theorem dW_law_1115 : decode code 1115 = .ok (.iconst 0, 1) := by decide +kernel
theorem dW_law_1116 : decode code 1116 = .ok (.ireturn, 1) := by decide +kernel
theorem dW_law_1117 : decode code 1117 = .ok (.goto 134, 3) := by decide +kernel
theorem dW_law_1120 : decode code 1120 = .ok (.aload_n 1, 1) := by decide +kernel
theorem dW_law_1121 : decode code 1121 = .ok (.aload_n 0, 1) := by decide +kernel
theorem dW_law_1122 : decode code 1122 = .ok (.iload 4, 2) := by decide +kernel
theorem dW_law_1124 : decode code 1124 = .ok (.iconst 1, 1) := by decide +kernel
theorem dW_law_1125 : decode code 1125 = .ok (.iadd, 1) := by decide +kernel
theorem dW_law_1126 : decode code 1126 = .ok (.iaload, 1) := by decide +kernel
theorem dW_law_1127 : decode code 1127 = .ok (.aload_n 0, 1) := by decide +kernel
theorem dW_law_1128 : decode code 1128 = .ok (.iload 4, 2) := by decide +kernel
theorem dW_law_1130 : decode code 1130 = .ok (.iconst 2, 1) := by decide +kernel
theorem dW_law_1131 : decode code 1131 = .ok (.iadd, 1) := by decide +kernel
theorem dW_law_1132 : decode code 1132 = .ok (.iaload, 1) := by decide +kernel
theorem dW_law_1133 : decode code 1133 = .ok (.aload_n 3, 1) := by decide +kernel
theorem dW_law_1134 : decode code 1134 = .ok (.invokestatic 135, 3) := by decide +kernel
theorem dW_law_1137 : decode code 1137 = .ok (.istore 5, 2) := by decide +kernel
theorem dW_law_1139 : decode code 1139 = .ok (.aload_n 2, 1) := by decide +kernel
theorem dW_law_1140 : decode code 1140 = .ok (.aload_n 0, 1) := by decide +kernel
theorem dW_law_1141 : decode code 1141 = .ok (.iload 4, 2) := by decide +kernel
theorem dW_law_1143 : decode code 1143 = .ok (.iconst 1, 1) := by decide +kernel
theorem dW_law_1144 : decode code 1144 = .ok (.iadd, 1) := by decide +kernel
theorem dW_law_1145 : decode code 1145 = .ok (.iaload, 1) := by decide +kernel
theorem dW_law_1146 : decode code 1146 = .ok (.aload_n 0, 1) := by decide +kernel
theorem dW_law_1147 : decode code 1147 = .ok (.iload 4, 2) := by decide +kernel
theorem dW_law_1149 : decode code 1149 = .ok (.iconst 2, 1) := by decide +kernel
theorem dW_law_1150 : decode code 1150 = .ok (.iadd, 1) := by decide +kernel
theorem dW_law_1151 : decode code 1151 = .ok (.iaload, 1) := by decide +kernel
theorem dW_law_1152 : decode code 1152 = .ok (.invokevirtual 137, 3) := by decide +kernel
theorem dW_law_1155 : decode code 1155 = .ok (.istore 6, 2) := by decide +kernel
theorem dW_law_1157 : decode code 1157 = .ok (.aload_n 2, 1) := by decide +kernel
theorem dW_law_1158 : decode code 1158 = .ok (.invokevirtual 82, 3) := by decide +kernel
theorem dW_law_1161 : decode code 1161 = .ok (.iload 5, 2) := by decide +kernel
theorem dW_law_1163 : decode code 1163 = .ok (.if_icmp .eq 5, 3) := by decide +kernel
theorem dW_law_1166 : decode code 1166 = .ok (.iconst 0, 1) := by decide +kernel
theorem dW_law_1167 : decode code 1167 = .ok (.ireturn, 1) := by decide +kernel
theorem dW_law_1168 : decode code 1168 = .ok (.iload 5, 2) := by decide +kernel
theorem dW_law_1170 : decode code 1170 = .ok (.ifCond .ne 22, 3) := by decide +kernel
theorem dW_law_1173 : decode code 1173 = .ok (.aload_n 3, 1) := by decide +kernel
theorem dW_law_1174 : decode code 1174 = .ok (.iconst 0, 1) := by decide +kernel
theorem dW_law_1175 : decode code 1175 = .ok (.laload, 1) := by decide +kernel
theorem dW_law_1176 : decode code 1176 = .ok (.iload 6, 2) := by decide +kernel
theorem dW_law_1178 : decode code 1178 = .ok (.ifCond .eq 7, 3) := by decide +kernel
theorem dW_law_1181 : decode code 1181 = .ok (.lconst 1, 1) := by decide +kernel
theorem dW_law_1182 : decode code 1182 = .ok (.goto 4, 3) := by decide +kernel
theorem dW_law_1185 : decode code 1185 = .ok (.lconst 0, 1) := by decide +kernel
theorem dW_law_1186 : decode code 1186 = .ok (.lcmp, 1) := by decide +kernel
theorem dW_law_1187 : decode code 1187 = .ok (.ifCond .eq 5, 3) := by decide +kernel
theorem dW_law_1190 : decode code 1190 = .ok (.iconst 0, 1) := by decide +kernel
theorem dW_law_1191 : decode code 1191 = .ok (.ireturn, 1) := by decide +kernel
theorem dW_law_1192 : decode code 1192 = .ok (.goto 59, 3) := by decide +kernel
theorem dW_law_1195 : decode code 1195 = .ok (.aload_n 1, 1) := by decide +kernel
theorem dW_law_1196 : decode code 1196 = .ok (.aload_n 0, 1) := by decide +kernel
theorem dW_law_1197 : decode code 1197 = .ok (.iload 4, 2) := by decide +kernel
theorem dW_law_1199 : decode code 1199 = .ok (.iconst 1, 1) := by decide +kernel
theorem dW_law_1200 : decode code 1200 = .ok (.iadd, 1) := by decide +kernel
theorem dW_law_1201 : decode code 1201 = .ok (.iaload, 1) := by decide +kernel
theorem dW_law_1202 : decode code 1202 = .ok (.aload_n 3, 1) := by decide +kernel
theorem dW_law_1203 : decode code 1203 = .ok (.invokestatic 138, 3) := by decide +kernel
theorem dW_law_1206 : decode code 1206 = .ok (.istore 5, 2) := by decide +kernel
theorem dW_law_1208 : decode code 1208 = .ok (.aload_n 2, 1) := by decide +kernel
theorem dW_law_1209 : decode code 1209 = .ok (.aload_n 0, 1) := by decide +kernel
theorem dW_law_1210 : decode code 1210 = .ok (.iload 4, 2) := by decide +kernel
theorem dW_law_1212 : decode code 1212 = .ok (.iconst 1, 1) := by decide +kernel
theorem dW_law_1213 : decode code 1213 = .ok (.iadd, 1) := by decide +kernel
theorem dW_law_1214 : decode code 1214 = .ok (.iaload, 1) := by decide +kernel
theorem dW_law_1215 : decode code 1215 = .ok (.invokevirtual 140, 3) := by decide +kernel
theorem dW_law_1218 : decode code 1218 = .ok (.istore 6, 2) := by decide +kernel
theorem dW_law_1220 : decode code 1220 = .ok (.aload_n 2, 1) := by decide +kernel
theorem dW_law_1221 : decode code 1221 = .ok (.invokevirtual 82, 3) := by decide +kernel
theorem dW_law_1224 : decode code 1224 = .ok (.iload 5, 2) := by decide +kernel
theorem dW_law_1226 : decode code 1226 = .ok (.if_icmp .eq 5, 3) := by decide +kernel
theorem dW_law_1229 : decode code 1229 = .ok (.iconst 0, 1) := by decide +kernel
theorem dW_law_1230 : decode code 1230 = .ok (.ireturn, 1) := by decide +kernel
theorem dW_law_1231 : decode code 1231 = .ok (.iload 5, 2) := by decide +kernel
theorem dW_law_1233 : decode code 1233 = .ok (.ifCond .ne 15, 3) := by decide +kernel
theorem dW_law_1236 : decode code 1236 = .ok (.aload_n 3, 1) := by decide +kernel
theorem dW_law_1237 : decode code 1237 = .ok (.iconst 0, 1) := by decide +kernel
theorem dW_law_1238 : decode code 1238 = .ok (.laload, 1) := by decide +kernel
theorem dW_law_1239 : decode code 1239 = .ok (.iload 6, 2) := by decide +kernel
theorem dW_law_1241 : decode code 1241 = .ok (.i2l, 1) := by decide +kernel
theorem dW_law_1242 : decode code 1242 = .ok (.lcmp, 1) := by decide +kernel
theorem dW_law_1243 : decode code 1243 = .ok (.ifCond .eq 5, 3) := by decide +kernel
theorem dW_law_1246 : decode code 1246 = .ok (.iconst 0, 1) := by decide +kernel
theorem dW_law_1247 : decode code 1247 = .ok (.ireturn, 1) := by decide +kernel
theorem dW_law_1248 : decode code 1248 = .ok (.goto 3, 3) := by decide +kernel
theorem dW_law_1251 : decode code 1251 = .ok (.iinc 4 5, 3) := by decide +kernel
theorem dW_law_1254 : decode code 1254 = .ok (.goto (-1211), 3) := by decide +kernel
theorem dW_law_1257 : decode code 1257 = .ok (.iconst 1, 1) := by decide +kernel
theorem dW_law_1258 : decode code 1258 = .ok (.ireturn, 1) := by decide +kernel
