theorem dw_944 : decode code 944 = .ok (.lcmp, 1) := by decide +kernel
theorem dw_945 : decode code 945 = .ok (.ifCond .eq 5, 3) := by decide +kernel
theorem dw_948 : decode code 948 = .ok (.iconst 0, 1) := by decide +kernel
theorem dw_949 : decode code 949 = .ok (.ireturn, 1) := by decide +kernel
theorem dw_950 : decode code 950 = .ok (.goto 751, 3) := by decide +kernel
theorem dw_953 : decode code 953 = .ok (.aload_n 1, 1) := by decide +kernel
theorem dw_954 : decode code 954 = .ok (.aload_n 0, 1) := by decide +kernel
theorem dw_955 : decode code 955 = .ok (.iload 4, 2) := by decide +kernel
theorem dw_957 : decode code 957 = .ok (.iconst 1, 1) := by decide +kernel
theorem dw_958 : decode code 958 = .ok (.iadd, 1) := by decide +kernel
theorem dw_959 : decode code 959 = .ok (.iaload, 1) := by decide +kernel
theorem dw_960 : decode code 960 = .ok (.aload_n 0, 1) := by decide +kernel
theorem dw_961 : decode code 961 = .ok (.iload 4, 2) := by decide +kernel
theorem dw_963 : decode code 963 = .ok (.iconst 2, 1) := by decide +kernel
theorem dw_964 : decode code 964 = .ok (.iadd, 1) := by decide +kernel
theorem dw_965 : decode code 965 = .ok (.iaload, 1) := by decide +kernel
theorem dw_966 : decode code 966 = .ok (.aload_n 3, 1) := by decide +kernel
theorem dw_967 : decode code 967 = .ok (.invokestatic 148, 3) := by decide +kernel
theorem dw_970 : decode code 970 = .ok (.istore 5, 2) := by decide +kernel
theorem dw_972 : decode code 972 = .ok (.aload_n 2, 1) := by decide +kernel
theorem dw_973 : decode code 973 = .ok (.aload_n 0, 1) := by decide +kernel
theorem dw_974 : decode code 974 = .ok (.iload 4, 2) := by decide +kernel
theorem dw_976 : decode code 976 = .ok (.iconst 1, 1) := by decide +kernel
theorem dw_977 : decode code 977 = .ok (.iadd, 1) := by decide +kernel
theorem dw_978 : decode code 978 = .ok (.iaload, 1) := by decide +kernel
theorem dw_979 : decode code 979 = .ok (.aload_n 0, 1) := by decide +kernel
theorem dw_980 : decode code 980 = .ok (.iload 4, 2) := by decide +kernel
theorem dw_982 : decode code 982 = .ok (.iconst 2, 1) := by decide +kernel
theorem dw_983 : decode code 983 = .ok (.iadd, 1) := by decide +kernel
theorem dw_984 : decode code 984 = .ok (.iaload, 1) := by decide +kernel
theorem dw_985 : decode code 985 = .ok (.invokevirtual 150, 3) := by decide +kernel
theorem dw_988 : decode code 988 = .ok (.istore 6, 2) := by decide +kernel
theorem dw_990 : decode code 990 = .ok (.aload_n 2, 1) := by decide +kernel
theorem dw_991 : decode code 991 = .ok (.invokevirtual 98, 3) := by decide +kernel
theorem dw_994 : decode code 994 = .ok (.iload 5, 2) := by decide +kernel
theorem dw_996 : decode code 996 = .ok (.if_icmp .eq 5, 3) := by decide +kernel
theorem dw_999 : decode code 999 = .ok (.iconst 0, 1) := by decide +kernel
theorem dw_1000 : decode code 1000 = .ok (.ireturn, 1) := by decide +kernel
theorem dw_1001 : decode code 1001 = .ok (.iload 5, 2) := by decide +kernel
theorem dw_1003 : decode code 1003 = .ok (.ifCond .ne 15, 3) := by decide +kernel
theorem dw_1006 : decode code 1006 = .ok (.aload_n 3, 1) := by decide +kernel
theorem dw_1007 : decode code 1007 = .ok (.iconst 0, 1) := by decide +kernel
theorem dw_1008 : decode code 1008 = .ok (.laload, 1) := by decide +kernel
theorem dw_1009 : decode code 1009 = .ok (.iload 6, 2) := by decide +kernel
theorem dw_1011 : decode code 1011 = .ok (.i2l, 1) := by decide +kernel
theorem dw_1012 : decode code 1012 = .ok (.lcmp, 1) := by decide +kernel
theorem dw_1013 : decode code 1013 = .ok (.ifCond .eq 5, 3) := by decide +kernel
theorem dw_1016 : decode code 1016 = .ok (.iconst 0, 1) := by decide +kernel
theorem dw_1017 : decode code 1017 = .ok (.ireturn, 1) := by decide +kernel
theorem dw_1018 : decode code 1018 = .ok (.goto 683, 3) := by decide +kernel
theorem dw_1021 : decode code 1021 = .ok (.aload_n 1, 1) := by decide +kernel
theorem dw_1022 : decode code 1022 = .ok (.aload_n 0, 1) := by decide +kernel
theorem dw_1023 : decode code 1023 = .ok (.iload 4, 2) := by decide +kernel
theorem dw_1025 : decode code 1025 = .ok (.iconst 1, 1) := by decide +kernel
theorem dw_1026 : decode code 1026 = .ok (.iadd, 1) := by decide +kernel
theorem dw_1027 : decode code 1027 = .ok (.iaload, 1) := by decide +kernel
theorem dw_1028 : decode code 1028 = .ok (.aload_n 0, 1) := by decide +kernel
theorem dw_1029 : decode code 1029 = .ok (.iload 4, 2) := by decide +kernel
theorem dw_1031 : decode code 1031 = .ok (.iconst 2, 1) := by decide +kernel
theorem dw_1032 : decode code 1032 = .ok (.iadd, 1) := by decide +kernel
theorem dw_1033 : decode code 1033 = .ok (.iaload, 1) := by decide +kernel
theorem dw_1034 : decode code 1034 = .ok (.aload_n 3, 1) := by decide +kernel
theorem dw_1035 : decode code 1035 = .ok (.invokestatic 151, 3) := by decide +kernel
theorem dw_1038 : decode code 1038 = .ok (.istore 5, 2) := by decide +kernel
theorem dw_1040 : decode code 1040 = .ok (.aload_n 2, 1) := by decide +kernel
theorem dw_1041 : decode code 1041 = .ok (.aload_n 0, 1) := by decide +kernel
theorem dw_1042 : decode code 1042 = .ok (.iload 4, 2) := by decide +kernel
theorem dw_1044 : decode code 1044 = .ok (.iconst 1, 1) := by decide +kernel
theorem dw_1045 : decode code 1045 = .ok (.iadd, 1) := by decide +kernel
theorem dw_1046 : decode code 1046 = .ok (.iaload, 1) := by decide +kernel
theorem dw_1047 : decode code 1047 = .ok (.aload_n 0, 1) := by decide +kernel
theorem dw_1048 : decode code 1048 = .ok (.iload 4, 2) := by decide +kernel
theorem dw_1050 : decode code 1050 = .ok (.iconst 2, 1) := by decide +kernel
theorem dw_1051 : decode code 1051 = .ok (.iadd, 1) := by decide +kernel
theorem dw_1052 : decode code 1052 = .ok (.iaload, 1) := by decide +kernel
theorem dw_1053 : decode code 1053 = .ok (.invokevirtual 153, 3) := by decide +kernel
theorem dw_1056 : decode code 1056 = .ok (.istore 6, 2) := by decide +kernel
theorem dw_1058 : decode code 1058 = .ok (.aload_n 2, 1) := by decide +kernel
theorem dw_1059 : decode code 1059 = .ok (.invokevirtual 98, 3) := by decide +kernel
theorem dw_1062 : decode code 1062 = .ok (.iload 5, 2) := by decide +kernel
theorem dw_1064 : decode code 1064 = .ok (.if_icmp .eq 5, 3) := by decide +kernel
theorem dw_1067 : decode code 1067 = .ok (.iconst 0, 1) := by decide +kernel
theorem dw_1068 : decode code 1068 = .ok (.ireturn, 1) := by decide +kernel
theorem dw_1069 : decode code 1069 = .ok (.iload 5, 2) := by decide +kernel
theorem dw_1071 : decode code 1071 = .ok (.ifCond .ne 15, 3) := by decide +kernel
theorem dw_1074 : decode code 1074 = .ok (.aload_n 3, 1) := by decide +kernel
theorem dw_1075 : decode code 1075 = .ok (.iconst 0, 1) := by decide +kernel
theorem dw_1076 : decode code 1076 = .ok (.laload, 1) := by decide +kernel
theorem dw_1077 : decode code 1077 = .ok (.iload 6, 2) := by decide +kernel
theorem dw_1079 : decode code 1079 = .ok (.i2l, 1) := by decide +kernel
theorem dw_1080 : decode code 1080 = .ok (.lcmp, 1) := by decide +kernel
theorem dw_1081 : decode code 1081 = .ok (.ifCond .eq 5, 3) := by decide +kernel
theorem dw_1084 : decode code 1084 = .ok (.iconst 0, 1) := by decide +kernel
theorem dw_1085 : decode code 1085 = .ok (.ireturn, 1) := by decide +kernel
theorem dw_1086 : decode code 1086 = .ok (.goto 615, 3) := by decide +kernel
theorem dw_1089 : decode code 1089 = .ok (.aload_n 1, 1) := by decide +kernel
theorem dw_1090 : decode code 1090 = .ok (.invokevirtual 154, 3) := by decide +kernel
theorem dw_1093 : decode code 1093 = .ok (.aload_n 2, 1) := by decide +kernel
theorem dw_1094 : decode code 1094 = .ok (.invokevirtual 158, 3) := by decide +kernel
theorem dw_1097 : decode code 1097 = .ok (.if_icmp .eq 604, 3) := by decide +kernel
theorem dw_1100 : decode code 1100 = .ok (.iconst 0, 1) := by decide +kernel
theorem dw_1101 : decode code 1101 = .ok (.ireturn, 1) := by decide +kernel
theorem dw_1102 : decode code 1102 = .ok (.aload_n 1, 1) := by decide +kernel
theorem dw_1103 : decode code 1103 = .ok (.aload_n 0, 1) := by decide +kernel
theorem dw_1104 : decode code 1104 = .ok (.iload 4, 2) := by decide +kernel
theorem dw_1106 : decode code 1106 = .ok (.iconst 1, 1) := by decide +kernel
theorem dw_1107 : decode code 1107 = .ok (.iadd, 1) := by decide +kernel
theorem dw_1108 : decode code 1108 = .ok (.iaload, 1) := by decide +kernel
theorem dw_1109 : decode code 1109 = .ok (.aload_n 0, 1) := by decide +kernel
theorem dw_1110 : decode code 1110 = .ok (.iload 4, 2) := by decide +kernel
theorem dw_1112 : decode code 1112 = .ok (.iconst 2, 1) := by decide +kernel
theorem dw_1113 : decode code 1113 = .ok (.iadd, 1) := by decide +kernel
theorem dw_1114 : decode code 1114 = .ok (.iaload, 1) := by decide +kernel
theorem dw_1115 : decode code 1115 = .ok (.aload_n 3, 1) := by decide +kernel
theorem dw_1116 : decode code 1116 = .ok (.invokestatic 159, 3) := by decide +kernel
theorem dw_1119 : decode code 1119 = .ok (.istore 5, 2) := by decide +kernel
theorem dw_1121 : decode code 1121 = .ok (.aload_n 2, 1) := by decide +kernel
theorem dw_1122 : decode code 1122 = .ok (.aload_n 0, 1) := by decide +kernel
theorem dw_1123 : decode code 1123 = .ok (.iload 4, 2) := by decide +kernel
theorem dw_1125 : decode code 1125 = .ok (.iconst 1, 1) := by decide +kernel
theorem dw_1126 : decode code 1126 = .ok (.iadd, 1) := by decide +kernel
theorem dw_1127 : decode code 1127 = .ok (.iaload, 1) := by decide +kernel
theorem dw_1128 : decode code 1128 = .ok (.aload_n 0, 1) := by decide +kernel
theorem dw_1129 : decode code 1129 = .ok (.iload 4, 2) := by decide +kernel
theorem dw_1131 : decode code 1131 = .ok (.iconst 2, 1) := by decide +kernel
theorem dw_1132 : decode code 1132 = .ok (.iadd, 1) := by decide +kernel
theorem dw_1133 : decode code 1133 = .ok (.iaload, 1) := by decide +kernel
theorem dw_1134 : decode code 1134 = .ok (.invokevirtual 161, 3) := by decide +kernel
theorem dw_1137 : decode code 1137 = .ok (.istore 6, 2) := by decide +kernel
theorem dw_1139 : decode code 1139 = .ok (.aload_n 2, 1) := by decide +kernel
theorem dw_1140 : decode code 1140 = .ok (.invokevirtual 98, 3) := by decide +kernel
theorem dw_1143 : decode code 1143 = .ok (.iload 5, 2) := by decide +kernel
theorem dw_1145 : decode code 1145 = .ok (.if_icmp .eq 5, 3) := by decide +kernel
theorem dw_1148 : decode code 1148 = .ok (.iconst 0, 1) := by decide +kernel
theorem dw_1149 : decode code 1149 = .ok (.ireturn, 1) := by decide +kernel
theorem dw_1150 : decode code 1150 = .ok (.iload 5, 2) := by decide +kernel
theorem dw_1152 : decode code 1152 = .ok (.ifCond .ne 15, 3) := by decide +kernel
theorem dw_1155 : decode code 1155 = .ok (.aload_n 3, 1) := by decide +kernel
theorem dw_1156 : decode code 1156 = .ok (.iconst 0, 1) := by decide +kernel
theorem dw_1157 : decode code 1157 = .ok (.laload, 1) := by decide +kernel
theorem dw_1158 : decode code 1158 = .ok (.iload 6, 2) := by decide +kernel
theorem dw_1160 : decode code 1160 = .ok (.i2l, 1) := by decide +kernel
theorem dw_1161 : decode code 1161 = .ok (.lcmp, 1) := by decide +kernel
theorem dw_1162 : decode code 1162 = .ok (.ifCond .eq 5, 3) := by decide +kernel
theorem dw_1165 : decode code 1165 = .ok (.iconst 0, 1) := by decide +kernel
theorem dw_1166 : decode code 1166 = .ok (.ireturn, 1) := by decide +kernel
theorem dw_1167 : decode code 1167 = .ok (.goto 534, 3) := by decide +kernel
theorem dw_1170 : decode code 1170 = .ok (.aload_n 1, 1) := by decide +kernel
theorem dw_1171 : decode code 1171 = .ok (.aload_n 0, 1) := by decide +kernel
theorem dw_1172 : decode code 1172 = .ok (.iload 4, 2) := by decide +kernel
theorem dw_1174 : decode code 1174 = .ok (.iconst 1, 1) := by decide +kernel
theorem dw_1175 : decode code 1175 = .ok (.iadd, 1) := by decide +kernel
theorem dw_1176 : decode code 1176 = .ok (.iaload, 1) := by decide +kernel
theorem dw_1177 : decode code 1177 = .ok (.aload_n 0, 1) := by decide +kernel
theorem dw_1178 : decode code 1178 = .ok (.iload 4, 2) := by decide +kernel
theorem dw_1180 : decode code 1180 = .ok (.iconst 2, 1) := by decide +kernel
theorem dw_1181 : decode code 1181 = .ok (.iadd, 1) := by decide +kernel
theorem dw_1182 : decode code 1182 = .ok (.iaload, 1) := by decide +kernel
theorem dw_1183 : decode code 1183 = .ok (.aload_n 3, 1) := by decide +kernel
theorem dw_1184 : decode code 1184 = .ok (.invokestatic 162, 3) := by decide +kernel
theorem dw_1187 : decode code 1187 = .ok (.istore 5, 2) := by decide +kernel
theorem dw_1189 : decode code 1189 = .ok (.aload_n 2, 1) := by decide +kernel
theorem dw_1190 : decode code 1190 = .ok (.aload_n 0, 1) := by decide +kernel
theorem dw_1191 : decode code 1191 = .ok (.iload 4, 2) := by decide +kernel
theorem dw_1193 : decode code 1193 = .ok (.iconst 1, 1) := by decide +kernel
theorem dw_1194 : decode code 1194 = .ok (.iadd, 1) := by decide +kernel
theorem dw_1195 : decode code 1195 = .ok (.iaload, 1) := by decide +kernel
theorem dw_1196 : decode code 1196 = .ok (.aload_n 0, 1) := by decide +kernel
theorem dw_1197 : decode code 1197 = .ok (.iload 4, 2) := by decide +kernel
theorem dw_1199 : decode code 1199 = .ok (.iconst 2, 1) := by decide +kernel
theorem dw_1200 : decode code 1200 = .ok (.iadd, 1) := by decide +kernel
theorem dw_1201 : decode code 1201 = .ok (.iaload, 1) := by decide +kernel
theorem dw_1202 : decode code 1202 = .ok (.invokevirtual 164, 3) := by decide +kernel
theorem dw_1205 : decode code 1205 = .ok (.istore 6, 2) := by decide +kernel
theorem dw_1207 : decode code 1207 = .ok (.aload_n 2, 1) := by decide +kernel
theorem dw_1208 : decode code 1208 = .ok (.invokevirtual 98, 3) := by decide +kernel
theorem dw_1211 : decode code 1211 = .ok (.iload 5, 2) := by decide +kernel
theorem dw_1213 : decode code 1213 = .ok (.if_icmp .eq 5, 3) := by decide +kernel
theorem dw_1216 : decode code 1216 = .ok (.iconst 0, 1) := by decide +kernel
theorem dw_1217 : decode code 1217 = .ok (.ireturn, 1) := by decide +kernel
theorem dw_1218 : decode code 1218 = .ok (.iload 5, 2) := by decide +kernel
theorem dw_1220 : decode code 1220 = .ok (.ifCond .ne 22, 3) := by decide +kernel
theorem dw_1223 : decode code 1223 = .ok (.aload_n 3, 1) := by decide +kernel
theorem dw_1224 : decode code 1224 = .ok (.iconst 0, 1) := by decide +kernel
theorem dw_1225 : decode code 1225 = .ok (.laload, 1) := by decide +kernel
theorem dw_1226 : decode code 1226 = .ok (.iload 6, 2) := by decide +kernel
theorem dw_1228 : decode code 1228 = .ok (.ifCond .eq 7, 3) := by decide +kernel
theorem dw_1231 : decode code 1231 = .ok (.lconst 1, 1) := by decide +kernel
theorem dw_1232 : decode code 1232 = .ok (.goto 4, 3) := by decide +kernel
theorem dw_1235 : decode code 1235 = .ok (.lconst 0, 1) := by decide +kernel
theorem dw_1236 : decode code 1236 = .ok (.lcmp, 1) := by decide +kernel
theorem dw_1237 : decode code 1237 = .ok (.ifCond .eq 5, 3) := by decide +kernel
theorem dw_1240 : decode code 1240 = .ok (.iconst 0, 1) := by decide +kernel
theorem dw_1241 : decode code 1241 = .ok (.ireturn, 1) := by decide +kernel
theorem dw_1242 : decode code 1242 = .ok (.goto 459, 3) := by decide +kernel
theorem dw_1245 : decode code 1245 = .ok (.aload_n 1, 1) := by decide +kernel
theorem dw_1246 : decode code 1246 = .ok (.invokevirtual 165, 3) := by decide +kernel
theorem dw_1249 : decode code 1249 = .ok (.aload_n 2, 1) := by decide +kernel
theorem dw_1250 : decode code 1250 = .ok (.invokevirtual 168, 3) := by decide +kernel
theorem dw_1253 : decode code 1253 = .ok (.if_icmp .eq 448, 3) := by decide +kernel
theorem dw_1256 : decode code 1256 = .ok (.iconst 0, 1) := by decide +kernel
theorem dw_1257 : decode code 1257 = .ok (.ireturn, 1) := by decide +kernel
theorem dw_1258 : decode code 1258 = .ok (.aload_n 1, 1) := by decide +kernel
theorem dw_1259 : decode code 1259 = .ok (.invokevirtual 169, 3) := by decide +kernel
theorem dw_1262 : decode code 1262 = .ok (.aload_n 2, 1) := by decide +kernel
theorem dw_1263 : decode code 1263 = .ok (.invokevirtual 172, 3) := by decide +kernel
theorem dw_1266 : decode code 1266 = .ok (.if_icmp .eq 435, 3) := by decide +kernel
theorem dw_1269 : decode code 1269 = .ok (.iconst 0, 1) := by decide +kernel
theorem dw_1270 : decode code 1270 = .ok (.ireturn, 1) := by decide +kernel
theorem dw_1271 : decode code 1271 = .ok (.aload_n 1, 1) := by decide +kernel
theorem dw_1272 : decode code 1272 = .ok (.invokevirtual 173, 3) := by decide +kernel
theorem dw_1275 : decode code 1275 = .ok (.aload_n 2, 1) := by decide +kernel
theorem dw_1276 : decode code 1276 = .ok (.invokevirtual 176, 3) := by decide +kernel
theorem dw_1279 : decode code 1279 = .ok (.if_icmp .eq 422, 3) := by decide +kernel
theorem dw_1282 : decode code 1282 = .ok (.iconst 0, 1) := by decide +kernel
theorem dw_1283 : decode code 1283 = .ok (.ireturn, 1) := by decide +kernel
theorem dw_1284 : decode code 1284 = .ok (.aload_n 1, 1) := by decide +kernel
theorem dw_1285 : decode code 1285 = .ok (.aload_n 0, 1) := by decide +kernel
theorem dw_1286 : decode code 1286 = .ok (.iload 4, 2) := by decide +kernel
theorem dw_1288 : decode code 1288 = .ok (.iconst 1, 1) := by decide +kernel
theorem dw_1289 : decode code 1289 = .ok (.iadd, 1) := by decide +kernel
theorem dw_1290 : decode code 1290 = .ok (.iaload, 1) := by decide +kernel
theorem dw_1291 : decode code 1291 = .ok (.aload_n 3, 1) := by decide +kernel
theorem dw_1292 : decode code 1292 = .ok (.invokestatic 177, 3) := by decide +kernel
theorem dw_1295 : decode code 1295 = .ok (.istore 5, 2) := by decide +kernel
theorem dw_1297 : decode code 1297 = .ok (.aload_n 2, 1) := by decide +kernel
theorem dw_1298 : decode code 1298 = .ok (.aload_n 0, 1) := by decide +kernel
theorem dw_1299 : decode code 1299 = .ok (.iload 4, 2) := by decide +kernel
theorem dw_1301 : decode code 1301 = .ok (.iconst 1, 1) := by decide +kernel
theorem dw_1302 : decode code 1302 = .ok (.iadd, 1) := by decide +kernel
theorem dw_1303 : decode code 1303 = .ok (.iaload, 1) := by decide +kernel
theorem dw_1304 : decode code 1304 = .ok (.invokevirtual 179, 3) := by decide +kernel
theorem dw_1307 : decode code 1307 = .ok (.istore 6, 2) := by decide +kernel
theorem dw_1309 : decode code 1309 = .ok (.aload_n 2, 1) := by decide +kernel
theorem dw_1310 : decode code 1310 = .ok (.invokevirtual 98, 3) := by decide +kernel
theorem dw_1313 : decode code 1313 = .ok (.iload 5, 2) := by decide +kernel
theorem dw_1315 : decode code 1315 = .ok (.if_icmp .eq 5, 3) := by decide +kernel
theorem dw_1318 : decode code 1318 = .ok (.iconst 0, 1) := by decide +kernel
theorem dw_1319 : decode code 1319 = .ok (.ireturn, 1) := by decide +kernel
theorem dw_1320 : decode code 1320 = .ok (.iload 5, 2) := by decide +kernel
theorem dw_1322 : decode code 1322 = .ok (.ifCond .ne 15, 3) := by decide +kernel
theorem dw_1325 : decode code 1325 = .ok (.aload_n 3, 1) := by decide +kernel
theorem dw_1326 : decode code 1326 = .ok (.iconst 0, 1) := by decide +kernel
theorem dw_1327 : decode code 1327 = .ok (.laload, 1) := by decide +kernel
theorem dw_1328 : decode code 1328 = .ok (.iload 6, 2) := by decide +kernel
theorem dw_1330 : decode code 1330 = .ok (.i2l, 1) := by decide +kernel
theorem dw_1331 : decode code 1331 = .ok (.lcmp, 1) := by decide +kernel
theorem dw_1332 : decode code 1332 = .ok (.ifCond .eq 5, 3) := by decide +kernel
theorem dw_1335 : decode code 1335 = .ok (.iconst 0, 1) := by decide +kernel
theorem dw_1336 : decode code 1336 = .ok (.ireturn, 1) := by decide +kernel
theorem dw_1337 : decode code 1337 = .ok (.goto 364, 3) := by decide +kernel
theorem dw_1340 : decode code 1340 = .ok (.aload_n 1, 1) := by decide +kernel
theorem dw_1341 : decode code 1341 = .ok (.aload_n 0, 1) := by decide +kernel
theorem dw_1342 : decode code 1342 = .ok (.iload 4, 2) := by decide +kernel
theorem dw_1344 : decode code 1344 = .ok (.iconst 1, 1) := by decide +kernel
theorem dw_1345 : decode code 1345 = .ok (.iadd, 1) := by decide +kernel
theorem dw_1346 : decode code 1346 = .ok (.iaload, 1) := by decide +kernel
theorem dw_1347 : decode code 1347 = .ok (.aload_n 3, 1) := by decide +kernel
theorem dw_1348 : decode code 1348 = .ok (.invokestatic 180, 3) := by decide +kernel
theorem dw_1351 : decode code 1351 = .ok (.istore 5, 2) := by decide +kernel
