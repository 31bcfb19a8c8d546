/-! names of the law's calls and rows: 15i.lhalls2 -/
theorem dL_halls_1000 : decode cL_halls 1000 = .ok (.imul, 1) := by decide +kernel
theorem dL_halls_1001 : decode cL_halls 1001 = .ok (.goto 4, 3) := by decide +kernel
theorem dL_halls_1004 : decode cL_halls 1004 = .ok (.iconst 0, 1) := by decide +kernel
theorem dL_halls_1005 : decode cL_halls 1005 = .ok (.iadd, 1) := by decide +kernel
theorem dL_halls_1006 : decode cL_halls 1006 = .ok (.iastore, 1) := by decide +kernel
theorem dL_halls_1007 : decode cL_halls 1007 = .ok (.aload 13, 2) := by decide +kernel
theorem dL_halls_1009 : decode cL_halls 1009 = .ok (.iconst 3, 1) := by decide +kernel
theorem dL_halls_1010 : decode cL_halls 1010 = .ok (.dup2, 1) := by decide +kernel
theorem dL_halls_1011 : decode cL_halls 1011 = .ok (.iaload, 1) := by decide +kernel
theorem dL_halls_1012 : decode cL_halls 1012 = .ok (.iconst 1, 1) := by decide +kernel
theorem dL_halls_1013 : decode cL_halls 1013 = .ok (.iadd, 1) := by decide +kernel
theorem dL_halls_1014 : decode cL_halls 1014 = .ok (.iastore, 1) := by decide +kernel
theorem dL_halls_1015 : decode cL_halls 1015 = .ok (.iconst 0, 1) := by decide +kernel
theorem dL_halls_1016 : decode cL_halls 1016 = .ok (.istore 20, 2) := by decide +kernel
theorem dL_halls_1018 : decode cL_halls 1018 = .ok (.iload 20, 2) := by decide +kernel
theorem dL_halls_1020 : decode cL_halls 1020 = .ok (.aload 13, 2) := by decide +kernel
theorem dL_halls_1022 : decode cL_halls 1022 = .ok (.iconst 5, 1) := by decide +kernel
theorem dL_halls_1023 : decode cL_halls 1023 = .ok (.iaload, 1) := by decide +kernel
theorem dL_halls_1024 : decode cL_halls 1024 = .ok (.if_icmp .ge 58, 3) := by decide +kernel
theorem dL_halls_1027 : decode cL_halls 1027 = .ok (.aload 11, 2) := by decide +kernel
theorem dL_halls_1029 : decode cL_halls 1029 = .ok (.iload 20, 2) := by decide +kernel
theorem dL_halls_1031 : decode cL_halls 1031 = .ok (.iaload, 1) := by decide +kernel
theorem dL_halls_1032 : decode cL_halls 1032 = .ok (.bipush 31, 2) := by decide +kernel
theorem dL_halls_1034 : decode cL_halls 1034 = .ok (.iand, 1) := by decide +kernel
theorem dL_halls_1035 : decode cL_halls 1035 = .ok (.iload 16, 2) := by decide +kernel
theorem dL_halls_1037 : decode cL_halls 1037 = .ok (.if_icmp .ne 39, 3) := by decide +kernel
theorem dL_halls_1040 : decode cL_halls 1040 = .ok (.aload 11, 2) := by decide +kernel
theorem dL_halls_1042 : decode cL_halls 1042 = .ok (.iload 20, 2) := by decide +kernel
theorem dL_halls_1044 : decode cL_halls 1044 = .ok (.iaload, 1) := by decide +kernel
theorem dL_halls_1045 : decode cL_halls 1045 = .ok (.bipush 9, 2) := by decide +kernel
theorem dL_halls_1047 : decode cL_halls 1047 = .ok (.ishr, 1) := by decide +kernel
theorem dL_halls_1048 : decode cL_halls 1048 = .ok (.iconst 3, 1) := by decide +kernel
theorem dL_halls_1049 : decode cL_halls 1049 = .ok (.iand, 1) := by decide +kernel
theorem dL_halls_1050 : decode cL_halls 1050 = .ok (.ifCond .ne 26, 3) := by decide +kernel
theorem dL_halls_1053 : decode cL_halls 1053 = .ok (.aload 11, 2) := by decide +kernel
theorem dL_halls_1055 : decode cL_halls 1055 = .ok (.iload 20, 2) := by decide +kernel
theorem dL_halls_1057 : decode cL_halls 1057 = .ok (.dup2, 1) := by decide +kernel
theorem dL_halls_1058 : decode cL_halls 1058 = .ok (.iaload, 1) := by decide +kernel
theorem dL_halls_1059 : decode cL_halls 1059 = .ok (.iload 20, 2) := by decide +kernel
theorem dL_halls_1061 : decode cL_halls 1061 = .ok (.iload 15, 2) := by decide +kernel
theorem dL_halls_1063 : decode cL_halls 1063 = .ok (.if_icmp .ne 7, 3) := by decide +kernel
theorem dL_halls_1066 : decode cL_halls 1066 = .ok (.iconst 1, 1) := by decide +kernel
theorem dL_halls_1067 : decode cL_halls 1067 = .ok (.goto 4, 3) := by decide +kernel
theorem dL_halls_1070 : decode cL_halls 1070 = .ok (.iconst 3, 1) := by decide +kernel
theorem dL_halls_1071 : decode cL_halls 1071 = .ok (.bipush 9, 2) := by decide +kernel
theorem dL_halls_1073 : decode cL_halls 1073 = .ok (.ishl, 1) := by decide +kernel
theorem dL_halls_1074 : decode cL_halls 1074 = .ok (.ior, 1) := by decide +kernel
theorem dL_halls_1075 : decode cL_halls 1075 = .ok (.iastore, 1) := by decide +kernel
theorem dL_halls_1076 : decode cL_halls 1076 = .ok (.iinc 20 1, 3) := by decide +kernel
theorem dL_halls_1079 : decode cL_halls 1079 = .ok (.goto (-61), 3) := by decide +kernel
theorem dL_halls_1082 : decode cL_halls 1082 = .ok (.aload 10, 2) := by decide +kernel
theorem dL_halls_1084 : decode cL_halls 1084 = .ok (.iload 16, 2) := by decide +kernel
theorem dL_halls_1086 : decode cL_halls 1086 = .ok (.dup2, 1) := by decide +kernel
theorem dL_halls_1087 : decode cL_halls 1087 = .ok (.iaload, 1) := by decide +kernel
theorem dL_halls_1088 : decode cL_halls 1088 = .ok (.ldc 172, 2) := by decide +kernel
theorem dL_halls_1090 : decode cL_halls 1090 = .ok (.ior, 1) := by decide +kernel
theorem dL_halls_1091 : decode cL_halls 1091 = .ok (.iastore, 1) := by decide +kernel
theorem dL_halls_1092 : decode cL_halls 1092 = .ok (.aload_n 0, 1) := by decide +kernel
theorem dL_halls_1093 : decode cL_halls 1093 = .ok (.iload 15, 2) := by decide +kernel
theorem dL_halls_1095 : decode cL_halls 1095 = .ok (.iconst 1, 1) := by decide +kernel
theorem dL_halls_1096 : decode cL_halls 1096 = .ok (.iload 18, 2) := by decide +kernel
theorem dL_halls_1098 : decode cL_halls 1098 = .ok (.invokestatic 194, 3) := by decide +kernel
theorem dL_halls_1101 : decode cL_halls 1101 = .ok (.aload 4, 2) := by decide +kernel
theorem dL_halls_1103 : decode cL_halls 1103 = .ok (.aload 6, 2) := by decide +kernel
theorem dL_halls_1105 : decode cL_halls 1105 = .ok (.aload 7, 2) := by decide +kernel
theorem dL_halls_1107 : decode cL_halls 1107 = .ok (.aload 8, 2) := by decide +kernel
theorem dL_halls_1109 : decode cL_halls 1109 = .ok (.aload 9, 2) := by decide +kernel
theorem dL_halls_1111 : decode cL_halls 1111 = .ok (.aload 10, 2) := by decide +kernel
theorem dL_halls_1113 : decode cL_halls 1113 = .ok (.aload 13, 2) := by decide +kernel
theorem dL_halls_1115 : decode cL_halls 1115 = .ok (.aload 10, 2) := by decide +kernel
theorem dL_halls_1117 : decode cL_halls 1117 = .ok (.iload 16, 2) := by decide +kernel
theorem dL_halls_1119 : decode cL_halls 1119 = .ok (.iaload, 1) := by decide +kernel
theorem dL_halls_1120 : decode cL_halls 1120 = .ok (.iconst 3, 1) := by decide +kernel
theorem dL_halls_1121 : decode cL_halls 1121 = .ok (.iand, 1) := by decide +kernel
theorem dL_halls_1122 : decode cL_halls 1122 = .ok (.invokestatic 176, 3) := by decide +kernel
theorem dL_halls_1125 : decode cL_halls 1125 = .ok (.if_icmp .ne 7, 3) := by decide +kernel
theorem dL_halls_1128 : decode cL_halls 1128 = .ok (.iconst 1, 1) := by decide +kernel
theorem dL_halls_1129 : decode cL_halls 1129 = .ok (.goto 4, 3) := by decide +kernel
theorem dL_halls_1132 : decode cL_halls 1132 = .ok (.iconst 0, 1) := by decide +kernel
theorem dL_halls_1133 : decode cL_halls 1133 = .ok (.ireturn, 1) := by decide +kernel
theorem dL_halls_1134 : decode cL_halls 1134 = .ok (.iload_n 1, 1) := by decide +kernel
theorem dL_halls_1135 : decode cL_halls 1135 = .ok (.bipush 16, 2) := by decide +kernel
theorem dL_halls_1137 : decode cL_halls 1137 = .ok (.if_icmp .ge 120, 3) := by decide +kernel
theorem dL_halls_1140 : decode cL_halls 1140 = .ok (.aload 11, 2) := by decide +kernel
theorem dL_halls_1142 : decode cL_halls 1142 = .ok (.iload 15, 2) := by decide +kernel
theorem dL_halls_1144 : decode cL_halls 1144 = .ok (.iaload, 1) := by decide +kernel
theorem dL_halls_1145 : decode cL_halls 1145 = .ok (.istore 16, 2) := by decide +kernel
theorem dL_halls_1147 : decode cL_halls 1147 = .ok (.iload 16, 2) := by decide +kernel
theorem dL_halls_1149 : decode cL_halls 1149 = .ok (.bipush 9, 2) := by decide +kernel
theorem dL_halls_1151 : decode cL_halls 1151 = .ok (.ishr, 1) := by decide +kernel
theorem dL_halls_1152 : decode cL_halls 1152 = .ok (.iconst 3, 1) := by decide +kernel
theorem dL_halls_1153 : decode cL_halls 1153 = .ok (.iand, 1) := by decide +kernel
theorem dL_halls_1154 : decode cL_halls 1154 = .ok (.iconst 2, 1) := by decide +kernel
theorem dL_halls_1155 : decode cL_halls 1155 = .ok (.if_icmp .ne 42, 3) := by decide +kernel
theorem dL_halls_1158 : decode cL_halls 1158 = .ok (.iload 16, 2) := by decide +kernel
theorem dL_halls_1160 : decode cL_halls 1160 = .ok (.bipush 11, 2) := by decide +kernel
theorem dL_halls_1162 : decode cL_halls 1162 = .ok (.ishr, 1) := by decide +kernel
theorem dL_halls_1163 : decode cL_halls 1163 = .ok (.iconst 1, 1) := by decide +kernel
theorem dL_halls_1164 : decode cL_halls 1164 = .ok (.iand, 1) := by decide +kernel
theorem dL_halls_1165 : decode cL_halls 1165 = .ok (.iconst 1, 1) := by decide +kernel
theorem dL_halls_1166 : decode cL_halls 1166 = .ok (.if_icmp .eq 31, 3) := by decide +kernel
theorem dL_halls_1169 : decode cL_halls 1169 = .ok (.aload 13, 2) := by decide +kernel
theorem dL_halls_1171 : decode cL_halls 1171 = .ok (.iconst 0, 1) := by decide +kernel
theorem dL_halls_1172 : decode cL_halls 1172 = .ok (.iaload, 1) := by decide +kernel
theorem dL_halls_1173 : decode cL_halls 1173 = .ok (.iload 16, 2) := by decide +kernel
theorem dL_halls_1175 : decode cL_halls 1175 = .ok (.bipush 12, 2) := by decide +kernel
theorem dL_halls_1177 : decode cL_halls 1177 = .ok (.ishr, 1) := by decide +kernel
theorem dL_halls_1178 : decode cL_halls 1178 = .ok (.isub, 1) := by decide +kernel
theorem dL_halls_1179 : decode cL_halls 1179 = .ok (.bipush 10, 2) := by decide +kernel
theorem dL_halls_1181 : decode cL_halls 1181 = .ok (.if_icmp .gt 16, 3) := by decide +kernel
theorem dL_halls_1184 : decode cL_halls 1184 = .ok (.aload 10, 2) := by decide +kernel
theorem dL_halls_1186 : decode cL_halls 1186 = .ok (.iload 16, 2) := by decide +kernel
theorem dL_halls_1188 : decode cL_halls 1188 = .ok (.bipush 31, 2) := by decide +kernel
theorem dL_halls_1190 : decode cL_halls 1190 = .ok (.iand, 1) := by decide +kernel
theorem dL_halls_1191 : decode cL_halls 1191 = .ok (.invokestatic 130, 3) := by decide +kernel
theorem dL_halls_1194 : decode cL_halls 1194 = .ok (.ifCond .eq 21, 3) := by decide +kernel
theorem dL_halls_1197 : decode cL_halls 1197 = .ok (.aload_n 0, 1) := by decide +kernel
theorem dL_halls_1198 : decode cL_halls 1198 = .ok (.iload 15, 2) := by decide +kernel
theorem dL_halls_1200 : decode cL_halls 1200 = .ok (.invokestatic 197, 3) := by decide +kernel
theorem dL_halls_1203 : decode cL_halls 1203 = .ok (.sipush (-7300), 3) := by decide +kernel
theorem dL_halls_1206 : decode cL_halls 1206 = .ok (.if_icmp .ne 7, 3) := by decide +kernel
theorem dL_halls_1209 : decode cL_halls 1209 = .ok (.iconst 1, 1) := by decide +kernel
theorem dL_halls_1210 : decode cL_halls 1210 = .ok (.goto 4, 3) := by decide +kernel
theorem dL_halls_1213 : decode cL_halls 1213 = .ok (.iconst 0, 1) := by decide +kernel
theorem dL_halls_1214 : decode cL_halls 1214 = .ok (.ireturn, 1) := by decide +kernel
theorem dL_halls_1215 : decode cL_halls 1215 = .ok (.aload 11, 2) := by decide +kernel
theorem dL_halls_1217 : decode cL_halls 1217 = .ok (.iload 15, 2) := by decide +kernel
theorem dL_halls_1219 : decode cL_halls 1219 = .ok (.iload 16, 2) := by decide +kernel
theorem dL_halls_1221 : decode cL_halls 1221 = .ok (.sipush 511, 3) := by decide +kernel
theorem dL_halls_1224 : decode cL_halls 1224 = .ok (.iand, 1) := by decide +kernel
theorem dL_halls_1225 : decode cL_halls 1225 = .ok (.sipush 2048, 3) := by decide +kernel
theorem dL_halls_1228 : decode cL_halls 1228 = .ok (.ior, 1) := by decide +kernel
theorem dL_halls_1229 : decode cL_halls 1229 = .ok (.iastore, 1) := by decide +kernel
theorem dL_halls_1230 : decode cL_halls 1230 = .ok (.aload_n 0, 1) := by decide +kernel
theorem dL_halls_1231 : decode cL_halls 1231 = .ok (.iload 15, 2) := by decide +kernel
theorem dL_halls_1233 : decode cL_halls 1233 = .ok (.invokestatic 197, 3) := by decide +kernel
theorem dL_halls_1236 : decode cL_halls 1236 = .ok (.aload 11, 2) := by decide +kernel
theorem dL_halls_1238 : decode cL_halls 1238 = .ok (.aload 13, 2) := by decide +kernel
theorem dL_halls_1240 : decode cL_halls 1240 = .ok (.iload 16, 2) := by decide +kernel
theorem dL_halls_1242 : decode cL_halls 1242 = .ok (.bipush 31, 2) := by decide +kernel
theorem dL_halls_1244 : decode cL_halls 1244 = .ok (.iand, 1) := by decide +kernel
theorem dL_halls_1245 : decode cL_halls 1245 = .ok (.invokestatic 134, 3) := by decide +kernel
theorem dL_halls_1248 : decode cL_halls 1248 = .ok (.if_icmp .ne 7, 3) := by decide +kernel
theorem dL_halls_1251 : decode cL_halls 1251 = .ok (.iconst 1, 1) := by decide +kernel
theorem dL_halls_1252 : decode cL_halls 1252 = .ok (.goto 4, 3) := by decide +kernel
theorem dL_halls_1255 : decode cL_halls 1255 = .ok (.iconst 0, 1) := by decide +kernel
theorem dL_halls_1256 : decode cL_halls 1256 = .ok (.ireturn, 1) := by decide +kernel
theorem dL_halls_1257 : decode cL_halls 1257 = .ok (.iload_n 1, 1) := by decide +kernel
theorem dL_halls_1258 : decode cL_halls 1258 = .ok (.bipush 20, 2) := by decide +kernel
theorem dL_halls_1260 : decode cL_halls 1260 = .ok (.if_icmp .ge 144, 3) := by decide +kernel
theorem dL_halls_1263 : decode cL_halls 1263 = .ok (.iload 14, 2) := by decide +kernel
theorem dL_halls_1265 : decode cL_halls 1265 = .ok (.aload 13, 2) := by decide +kernel
theorem dL_halls_1267 : decode cL_halls 1267 = .ok (.iconst 4, 1) := by decide +kernel
theorem dL_halls_1268 : decode cL_halls 1268 = .ok (.iaload, 1) := by decide +kernel
theorem dL_halls_1269 : decode cL_halls 1269 = .ok (.if_icmp .ne 33, 3) := by decide +kernel
theorem dL_halls_1272 : decode cL_halls 1272 = .ok (.aload_n 0, 1) := by decide +kernel
theorem dL_halls_1273 : decode cL_halls 1273 = .ok (.iload 14, 2) := by decide +kernel
theorem dL_halls_1275 : decode cL_halls 1275 = .ok (.invokestatic 192, 3) := by decide +kernel
theorem dL_halls_1278 : decode cL_halls 1278 = .ok (.sipush (-7100), 3) := by decide +kernel
theorem dL_halls_1281 : decode cL_halls 1281 = .ok (.if_icmp .ne 19, 3) := by decide +kernel
theorem dL_halls_1284 : decode cL_halls 1284 = .ok (.aload_n 0, 1) := by decide +kernel
theorem dL_halls_1285 : decode cL_halls 1285 = .ok (.iload 14, 2) := by decide +kernel
theorem dL_halls_1287 : decode cL_halls 1287 = .ok (.invokestatic 201, 3) := by decide +kernel
theorem dL_halls_1290 : decode cL_halls 1290 = .ok (.sipush (-7100), 3) := by decide +kernel
theorem dL_halls_1293 : decode cL_halls 1293 = .ok (.if_icmp .ne 7, 3) := by decide +kernel
theorem dL_halls_1296 : decode cL_halls 1296 = .ok (.iconst 1, 1) := by decide +kernel
theorem dL_halls_1297 : decode cL_halls 1297 = .ok (.goto 4, 3) := by decide +kernel
theorem dL_halls_1300 : decode cL_halls 1300 = .ok (.iconst 0, 1) := by decide +kernel
theorem dL_halls_1301 : decode cL_halls 1301 = .ok (.ireturn, 1) := by decide +kernel
theorem dL_halls_1302 : decode cL_halls 1302 = .ok (.aload 10, 2) := by decide +kernel
theorem dL_halls_1304 : decode cL_halls 1304 = .ok (.iload 14, 2) := by decide +kernel
theorem dL_halls_1306 : decode cL_halls 1306 = .ok (.iaload, 1) := by decide +kernel
theorem dL_halls_1307 : decode cL_halls 1307 = .ok (.bipush 17, 2) := by decide +kernel
theorem dL_halls_1309 : decode cL_halls 1309 = .ok (.ishr, 1) := by decide +kernel
theorem dL_halls_1310 : decode cL_halls 1310 = .ok (.ifCond .gt 19, 3) := by decide +kernel
theorem dL_halls_1313 : decode cL_halls 1313 = .ok (.aload 4, 2) := by decide +kernel
theorem dL_halls_1315 : decode cL_halls 1315 = .ok (.aload 10, 2) := by decide +kernel
theorem dL_halls_1317 : decode cL_halls 1317 = .ok (.aload 11, 2) := by decide +kernel
theorem dL_halls_1319 : decode cL_halls 1319 = .ok (.aload 13, 2) := by decide +kernel
theorem dL_halls_1321 : decode cL_halls 1321 = .ok (.iload 14, 2) := by decide +kernel
theorem dL_halls_1323 : decode cL_halls 1323 = .ok (.invokestatic 168, 3) := by decide +kernel
theorem dL_halls_1326 : decode cL_halls 1326 = .ok (.ifCond .ne 21, 3) := by decide +kernel
theorem dL_halls_1329 : decode cL_halls 1329 = .ok (.aload_n 0, 1) := by decide +kernel
theorem dL_halls_1330 : decode cL_halls 1330 = .ok (.iload 14, 2) := by decide +kernel
theorem dL_halls_1332 : decode cL_halls 1332 = .ok (.invokestatic 192, 3) := by decide +kernel
theorem dL_halls_1335 : decode cL_halls 1335 = .ok (.sipush (-7300), 3) := by decide +kernel
theorem dL_halls_1338 : decode cL_halls 1338 = .ok (.if_icmp .ne 7, 3) := by decide +kernel
theorem dL_halls_1341 : decode cL_halls 1341 = .ok (.iconst 1, 1) := by decide +kernel
theorem dL_halls_1342 : decode cL_halls 1342 = .ok (.goto 4, 3) := by decide +kernel
theorem dL_halls_1345 : decode cL_halls 1345 = .ok (.iconst 0, 1) := by decide +kernel
theorem dL_halls_1346 : decode cL_halls 1346 = .ok (.ireturn, 1) := by decide +kernel
theorem dL_halls_1347 : decode cL_halls 1347 = .ok (.aload 12, 2) := by decide +kernel
theorem dL_halls_1349 : decode cL_halls 1349 = .ok (.aload 13, 2) := by decide +kernel
theorem dL_halls_1351 : decode cL_halls 1351 = .ok (.bipush 6, 2) := by decide +kernel
theorem dL_halls_1353 : decode cL_halls 1353 = .ok (.iaload, 1) := by decide +kernel
theorem dL_halls_1354 : decode cL_halls 1354 = .ok (.iload 14, 2) := by decide +kernel
theorem dL_halls_1356 : decode cL_halls 1356 = .ok (.iastore, 1) := by decide +kernel
theorem dL_halls_1357 : decode cL_halls 1357 = .ok (.aload 13, 2) := by decide +kernel
theorem dL_halls_1359 : decode cL_halls 1359 = .ok (.bipush 6, 2) := by decide +kernel
theorem dL_halls_1361 : decode cL_halls 1361 = .ok (.dup2, 1) := by decide +kernel
theorem dL_halls_1362 : decode cL_halls 1362 = .ok (.iaload, 1) := by decide +kernel
theorem dL_halls_1363 : decode cL_halls 1363 = .ok (.iconst 1, 1) := by decide +kernel
theorem dL_halls_1364 : decode cL_halls 1364 = .ok (.iadd, 1) := by decide +kernel
theorem dL_halls_1365 : decode cL_halls 1365 = .ok (.iastore, 1) := by decide +kernel
theorem dL_halls_1366 : decode cL_halls 1366 = .ok (.aload 10, 2) := by decide +kernel
theorem dL_halls_1368 : decode cL_halls 1368 = .ok (.iload 14, 2) := by decide +kernel
theorem dL_halls_1370 : decode cL_halls 1370 = .ok (.dup2, 1) := by decide +kernel
theorem dL_halls_1371 : decode cL_halls 1371 = .ok (.iaload, 1) := by decide +kernel
theorem dL_halls_1372 : decode cL_halls 1372 = .ok (.aload 13, 2) := by decide +kernel
theorem dL_halls_1374 : decode cL_halls 1374 = .ok (.bipush 6, 2) := by decide +kernel
theorem dL_halls_1376 : decode cL_halls 1376 = .ok (.iaload, 1) := by decide +kernel
theorem dL_halls_1377 : decode cL_halls 1377 = .ok (.bipush 17, 2) := by decide +kernel
theorem dL_halls_1379 : decode cL_halls 1379 = .ok (.ishl, 1) := by decide +kernel
theorem dL_halls_1380 : decode cL_halls 1380 = .ok (.ior, 1) := by decide +kernel
theorem dL_halls_1381 : decode cL_halls 1381 = .ok (.iastore, 1) := by decide +kernel
theorem dL_halls_1382 : decode cL_halls 1382 = .ok (.aload_n 0, 1) := by decide +kernel
theorem dL_halls_1383 : decode cL_halls 1383 = .ok (.iload 14, 2) := by decide +kernel
theorem dL_halls_1385 : decode cL_halls 1385 = .ok (.invokestatic 192, 3) := by decide +kernel
theorem dL_halls_1388 : decode cL_halls 1388 = .ok (.aload 13, 2) := by decide +kernel
theorem dL_halls_1390 : decode cL_halls 1390 = .ok (.bipush 6, 2) := by decide +kernel
theorem dL_halls_1392 : decode cL_halls 1392 = .ok (.iaload, 1) := by decide +kernel
theorem dL_halls_1393 : decode cL_halls 1393 = .ok (.iconst 1, 1) := by decide +kernel
theorem dL_halls_1394 : decode cL_halls 1394 = .ok (.isub, 1) := by decide +kernel
theorem dL_halls_1395 : decode cL_halls 1395 = .ok (.if_icmp .ne 7, 3) := by decide +kernel
theorem dL_halls_1398 : decode cL_halls 1398 = .ok (.iconst 1, 1) := by decide +kernel
theorem dL_halls_1399 : decode cL_halls 1399 = .ok (.goto 4, 3) := by decide +kernel
theorem dL_halls_1402 : decode cL_halls 1402 = .ok (.iconst 0, 1) := by decide +kernel
theorem dL_halls_1403 : decode cL_halls 1403 = .ok (.ireturn, 1) := by decide +kernel
theorem dL_halls_1404 : decode cL_halls 1404 = .ok (.iload_n 2, 1) := by decide +kernel
theorem dL_halls_1405 : decode cL_halls 1405 = .ok (.aload 13, 2) := by decide +kernel
theorem dL_halls_1407 : decode cL_halls 1407 = .ok (.bipush 6, 2) := by decide +kernel
theorem dL_halls_1409 : decode cL_halls 1409 = .ok (.iaload, 1) := by decide +kernel
theorem dL_halls_1410 : decode cL_halls 1410 = .ok (.iconst 1, 1) := by decide +kernel
theorem dL_halls_1411 : decode cL_halls 1411 = .ok (.iadd, 1) := by decide +kernel
theorem dL_halls_1412 : decode cL_halls 1412 = .ok (.invokestatic 145, 3) := by decide +kernel
theorem dL_halls_1415 : decode cL_halls 1415 = .ok (.istore 16, 2) := by decide +kernel
theorem dL_halls_1417 : decode cL_halls 1417 = .ok (.iload 16, 2) := by decide +kernel
theorem dL_halls_1419 : decode cL_halls 1419 = .ok (.aload 13, 2) := by decide +kernel
theorem dL_halls_1421 : decode cL_halls 1421 = .ok (.bipush 6, 2) := by decide +kernel
theorem dL_halls_1423 : decode cL_halls 1423 = .ok (.iaload, 1) := by decide +kernel
theorem dL_halls_1424 : decode cL_halls 1424 = .ok (.if_icmp .ne 34, 3) := by decide +kernel
theorem dL_halls_1427 : decode cL_halls 1427 = .ok (.aload_n 0, 1) := by decide +kernel
theorem dL_halls_1428 : decode cL_halls 1428 = .ok (.iload 16, 2) := by decide +kernel
theorem dL_halls_1430 : decode cL_halls 1430 = .ok (.iconst 0, 1) := by decide +kernel
theorem dL_halls_1431 : decode cL_halls 1431 = .ok (.invokestatic 203, 3) := by decide +kernel
theorem dL_halls_1434 : decode cL_halls 1434 = .ok (.sipush (-7100), 3) := by decide +kernel
theorem dL_halls_1437 : decode cL_halls 1437 = .ok (.if_icmp .ne 19, 3) := by decide +kernel
theorem dL_halls_1440 : decode cL_halls 1440 = .ok (.aload_n 0, 1) := by decide +kernel
theorem dL_halls_1441 : decode cL_halls 1441 = .ok (.iload 16, 2) := by decide +kernel
theorem dL_halls_1443 : decode cL_halls 1443 = .ok (.invokestatic 205, 3) := by decide +kernel
theorem dL_halls_1446 : decode cL_halls 1446 = .ok (.sipush (-7100), 3) := by decide +kernel
theorem dL_halls_1449 : decode cL_halls 1449 = .ok (.if_icmp .ne 7, 3) := by decide +kernel
theorem dL_halls_1452 : decode cL_halls 1452 = .ok (.iconst 1, 1) := by decide +kernel
theorem dL_halls_1453 : decode cL_halls 1453 = .ok (.goto 4, 3) := by decide +kernel
theorem dL_halls_1456 : decode cL_halls 1456 = .ok (.iconst 0, 1) := by decide +kernel
theorem dL_halls_1457 : decode cL_halls 1457 = .ok (.ireturn, 1) := by decide +kernel
theorem dL_halls_1458 : decode cL_halls 1458 = .ok (.aload 12, 2) := by decide +kernel
theorem dL_halls_1460 : decode cL_halls 1460 = .ok (.iload 16, 2) := by decide +kernel
theorem dL_halls_1462 : decode cL_halls 1462 = .ok (.iaload, 1) := by decide +kernel
theorem dL_halls_1463 : decode cL_halls 1463 = .ok (.bipush 31, 2) := by decide +kernel
theorem dL_halls_1465 : decode cL_halls 1465 = .ok (.iand, 1) := by decide +kernel
theorem dL_halls_1466 : decode cL_halls 1466 = .ok (.istore 17, 2) := by decide +kernel
theorem dL_halls_1468 : decode cL_halls 1468 = .ok (.iconst 1, 1) := by decide +kernel
theorem dL_halls_1469 : decode cL_halls 1469 = .ok (.iload_n 3, 1) := by decide +kernel
theorem dL_halls_1470 : decode cL_halls 1470 = .ok (.iload_n 3, 1) := by decide +kernel
theorem dL_halls_1471 : decode cL_halls 1471 = .ok (.bipush 96, 2) := by decide +kernel
theorem dL_halls_1473 : decode cL_halls 1473 = .ok (.iand, 1) := by decide +kernel
theorem dL_halls_1474 : decode cL_halls 1474 = .ok (.ifCond .ne 8, 3) := by decide +kernel
theorem dL_halls_1477 : decode cL_halls 1477 = .ok (.ldc 166, 2) := by decide +kernel
theorem dL_halls_1479 : decode cL_halls 1479 = .ok (.goto 5, 3) := by decide +kernel
theorem dL_halls_1482 : decode cL_halls 1482 = .ok (.bipush 60, 2) := by decide +kernel
theorem dL_halls_1484 : decode cL_halls 1484 = .ok (.invokestatic 145, 3) := by decide +kernel
theorem dL_halls_1487 : decode cL_halls 1487 = .ok (.iadd, 1) := by decide +kernel
theorem dL_halls_1488 : decode cL_halls 1488 = .ok (.istore 18, 2) := by decide +kernel
theorem dL_halls_1490 : decode cL_halls 1490 = .ok (.aload_n 0, 1) := by decide +kernel
theorem dL_halls_1491 : decode cL_halls 1491 = .ok (.iload 16, 2) := by decide +kernel
theorem dL_halls_1493 : decode cL_halls 1493 = .ok (.iconst 0, 1) := by decide +kernel
theorem dL_halls_1494 : decode cL_halls 1494 = .ok (.invokestatic 203, 3) := by decide +kernel
theorem dL_halls_1497 : decode cL_halls 1497 = .ok (.sipush (-7200), 3) := by decide +kernel
theorem dL_halls_1500 : decode cL_halls 1500 = .ok (.if_icmp .ne 17, 3) := by decide +kernel
theorem dL_halls_1503 : decode cL_halls 1503 = .ok (.aload_n 0, 1) := by decide +kernel
theorem dL_halls_1504 : decode cL_halls 1504 = .ok (.iload 16, 2) := by decide +kernel
theorem dL_halls_1506 : decode cL_halls 1506 = .ok (.ldc 167, 2) := by decide +kernel
theorem dL_halls_1508 : decode cL_halls 1508 = .ok (.invokestatic 203, 3) := by decide +kernel
theorem dL_halls_1511 : decode cL_halls 1511 = .ok (.sipush (-7200), 3) := by decide +kernel
theorem dL_halls_1514 : decode cL_halls 1514 = .ok (.if_icmp .eq 5, 3) := by decide +kernel
theorem dL_halls_1517 : decode cL_halls 1517 = .ok (.iconst 0, 1) := by decide +kernel
theorem dL_halls_1518 : decode cL_halls 1518 = .ok (.ireturn, 1) := by decide +kernel
theorem dL_halls_1519 : decode cL_halls 1519 = .ok (.aload 10, 2) := by decide +kernel
theorem dL_halls_1521 : decode cL_halls 1521 = .ok (.iload 17, 2) := by decide +kernel
theorem dL_halls_1523 : decode cL_halls 1523 = .ok (.invokestatic 130, 3) := by decide +kernel
theorem dL_halls_1526 : decode cL_halls 1526 = .ok (.ifCond .ne 40, 3) := by decide +kernel
theorem dL_halls_1529 : decode cL_halls 1529 = .ok (.aload 11, 2) := by decide +kernel
theorem dL_halls_1531 : decode cL_halls 1531 = .ok (.aload 13, 2) := by decide +kernel
theorem dL_halls_1533 : decode cL_halls 1533 = .ok (.iload 17, 2) := by decide +kernel
theorem dL_halls_1535 : decode cL_halls 1535 = .ok (.invokestatic 134, 3) := by decide +kernel
theorem dL_halls_1538 : decode cL_halls 1538 = .ok (.ifCond .gt 28, 3) := by decide +kernel
theorem dL_halls_1541 : decode cL_halls 1541 = .ok (.aload 12, 2) := by decide +kernel
theorem dL_halls_1543 : decode cL_halls 1543 = .ok (.iload 16, 2) := by decide +kernel
theorem dL_halls_1545 : decode cL_halls 1545 = .ok (.iaload, 1) := by decide +kernel
theorem dL_halls_1546 : decode cL_halls 1546 = .ok (.iconst 5, 1) := by decide +kernel
theorem dL_halls_1547 : decode cL_halls 1547 = .ok (.ishr, 1) := by decide +kernel
theorem dL_halls_1548 : decode cL_halls 1548 = .ok (.iload 18, 2) := by decide +kernel
theorem dL_halls_1550 : decode cL_halls 1550 = .ok (.iadd, 1) := by decide +kernel
theorem dL_halls_1551 : decode cL_halls 1551 = .ok (.aload 6, 2) := by decide +kernel
theorem dL_halls_1553 : decode cL_halls 1553 = .ok (.aload 10, 2) := by decide +kernel
theorem dL_halls_1555 : decode cL_halls 1555 = .ok (.iload 17, 2) := by decide +kernel
theorem dL_halls_1557 : decode cL_halls 1557 = .ok (.invokestatic 173, 3) := by decide +kernel
theorem dL_halls_1560 : decode cL_halls 1560 = .ok (.invokestatic 118, 3) := by decide +kernel
theorem dL_halls_1563 : decode cL_halls 1563 = .ok (.if_icmp .le 23, 3) := by decide +kernel
theorem dL_halls_1566 : decode cL_halls 1566 = .ok (.aload_n 0, 1) := by decide +kernel
theorem dL_halls_1567 : decode cL_halls 1567 = .ok (.iload 16, 2) := by decide +kernel
theorem dL_halls_1569 : decode cL_halls 1569 = .ok (.iload 18, 2) := by decide +kernel
theorem dL_halls_1571 : decode cL_halls 1571 = .ok (.invokestatic 203, 3) := by decide +kernel
theorem dL_halls_1574 : decode cL_halls 1574 = .ok (.sipush (-7300), 3) := by decide +kernel
theorem dL_halls_1577 : decode cL_halls 1577 = .ok (.if_icmp .ne 7, 3) := by decide +kernel
theorem dL_halls_1580 : decode cL_halls 1580 = .ok (.iconst 1, 1) := by decide +kernel
theorem dL_halls_1581 : decode cL_halls 1581 = .ok (.goto 4, 3) := by decide +kernel
theorem dL_halls_1584 : decode cL_halls 1584 = .ok (.iconst 0, 1) := by decide +kernel
theorem dL_halls_1585 : decode cL_halls 1585 = .ok (.ireturn, 1) := by decide +kernel
theorem dL_halls_1586 : decode cL_halls 1586 = .ok (.aload 12, 2) := by decide +kernel
theorem dL_halls_1588 : decode cL_halls 1588 = .ok (.iload 16, 2) := by decide +kernel
theorem dL_halls_1590 : decode cL_halls 1590 = .ok (.dup2, 1) := by decide +kernel
theorem dL_halls_1591 : decode cL_halls 1591 = .ok (.iaload, 1) := by decide +kernel
theorem dL_halls_1592 : decode cL_halls 1592 = .ok (.iload 18, 2) := by decide +kernel
theorem dL_halls_1594 : decode cL_halls 1594 = .ok (.iconst 5, 1) := by decide +kernel
theorem dL_halls_1595 : decode cL_halls 1595 = .ok (.ishl, 1) := by decide +kernel
theorem dL_halls_1596 : decode cL_halls 1596 = .ok (.iadd, 1) := by decide +kernel
theorem dL_halls_1597 : decode cL_halls 1597 = .ok (.iastore, 1) := by decide +kernel
theorem dL_halls_1598 : decode cL_halls 1598 = .ok (.aload_n 0, 1) := by decide +kernel
theorem dL_halls_1599 : decode cL_halls 1599 = .ok (.iload 16, 2) := by decide +kernel
theorem dL_halls_1601 : decode cL_halls 1601 = .ok (.iload 18, 2) := by decide +kernel
theorem dL_halls_1603 : decode cL_halls 1603 = .ok (.invokestatic 203, 3) := by decide +kernel
theorem dL_halls_1606 : decode cL_halls 1606 = .ok (.aload 12, 2) := by decide +kernel
theorem dL_halls_1608 : decode cL_halls 1608 = .ok (.iload 16, 2) := by decide +kernel
theorem dL_halls_1610 : decode cL_halls 1610 = .ok (.iaload, 1) := by decide +kernel
theorem dL_halls_1611 : decode cL_halls 1611 = .ok (.iconst 5, 1) := by decide +kernel
theorem dL_halls_1612 : decode cL_halls 1612 = .ok (.ishr, 1) := by decide +kernel
theorem dL_halls_1613 : decode cL_halls 1613 = .ok (.if_icmp .ne 7, 3) := by decide +kernel
theorem dL_halls_1616 : decode cL_halls 1616 = .ok (.iconst 1, 1) := by decide +kernel
theorem dL_halls_1617 : decode cL_halls 1617 = .ok (.goto 4, 3) := by decide +kernel
theorem dL_halls_1620 : decode cL_halls 1620 = .ok (.iconst 0, 1) := by decide +kernel
theorem dL_halls_1621 : decode cL_halls 1621 = .ok (.ireturn, 1) := by decide +kernel
