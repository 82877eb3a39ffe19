theorem pf_201_1064 : pd_fetch 201 1064 = some (.goto (Int.ofNat 1951), 1067) := by decide +kernel
theorem pf_201_1067 : pd_fetch 201 1067 = some (.aload 1, 1068) := by decide +kernel
theorem pf_201_1068 : pd_fetch 201 1068 = some (.aload 0, 1069) := by decide +kernel
theorem pf_201_1069 : pd_fetch 201 1069 = some (.iload 4, 1071) := by decide +kernel
theorem pf_201_1071 : pd_fetch 201 1071 = some (.iconst 1, 1072) := by decide +kernel
theorem pf_201_1072 : pd_fetch 201 1072 = some (.iadd, 1073) := by decide +kernel
theorem pf_201_1073 : pd_fetch 201 1073 = some (.iaload, 1074) := by decide +kernel
theorem pf_201_1074 : pd_fetch 201 1074 = some (.aload 3, 1075) := by decide +kernel
theorem pf_201_1075 : pd_fetch 201 1075 = some (.invokestatic 191, 1078) := by decide +kernel
theorem pf_201_1078 : pd_fetch 201 1078 = some (.istore 5, 1080) := by decide +kernel
theorem pf_201_1080 : pd_fetch 201 1080 = some (.aload 2, 1081) := by decide +kernel
theorem pf_201_1081 : pd_fetch 201 1081 = some (.aload 0, 1082) := by decide +kernel
theorem pf_201_1082 : pd_fetch 201 1082 = some (.iload 4, 1084) := by decide +kernel
theorem pf_201_1084 : pd_fetch 201 1084 = some (.iconst 1, 1085) := by decide +kernel
theorem pf_201_1085 : pd_fetch 201 1085 = some (.iadd, 1086) := by decide +kernel
theorem pf_201_1086 : pd_fetch 201 1086 = some (.iaload, 1087) := by decide +kernel
theorem pf_201_1087 : pd_fetch 201 1087 = some (.invokevirtual 158, 1090) := by decide +kernel
theorem pf_201_1090 : pd_fetch 201 1090 = some (.istore 6, 1092) := by decide +kernel
theorem pf_201_1092 : pd_fetch 201 1092 = some (.aload 2, 1093) := by decide +kernel
theorem pf_201_1093 : pd_fetch 201 1093 = some (.invokevirtual 107, 1096) := by decide +kernel
theorem pf_201_1096 : pd_fetch 201 1096 = some (.iload 5, 1098) := by decide +kernel
theorem pf_201_1098 : pd_fetch 201 1098 = some (.if_icmp .eq (Int.ofNat 1103), 1101) := by decide +kernel
theorem pf_201_1101 : pd_fetch 201 1101 = some (.iconst 0, 1102) := by decide +kernel
theorem pf_201_1102 : pd_fetch 201 1102 = some (.ireturn, 1103) := by decide +kernel
theorem pf_201_1103 : pd_fetch 201 1103 = some (.iload 5, 1105) := by decide +kernel
theorem pf_201_1105 : pd_fetch 201 1105 = some (.ifCond .ne (Int.ofNat 1120), 1108) := by decide +kernel
theorem pf_201_1108 : pd_fetch 201 1108 = some (.aload 3, 1109) := by decide +kernel
theorem pf_201_1109 : pd_fetch 201 1109 = some (.iconst 0, 1110) := by decide +kernel
theorem pf_201_1110 : pd_fetch 201 1110 = some (.laload, 1111) := by decide +kernel
theorem pf_201_1111 : pd_fetch 201 1111 = some (.iload 6, 1113) := by decide +kernel
theorem pf_201_1113 : pd_fetch 201 1113 = some (.i2l, 1114) := by decide +kernel
theorem pf_201_1114 : pd_fetch 201 1114 = some (.lcmp, 1115) := by decide +kernel
theorem pf_201_1115 : pd_fetch 201 1115 = some (.ifCond .eq (Int.ofNat 1120), 1118) := by decide +kernel
theorem pf_201_1118 : pd_fetch 201 1118 = some (.iconst 0, 1119) := by decide +kernel
theorem pf_201_1119 : pd_fetch 201 1119 = some (.ireturn, 1120) := by decide +kernel
theorem pf_201_1120 : pd_fetch 201 1120 = some (.goto (Int.ofNat 1951), 1123) := by decide +kernel
theorem pf_201_1123 : pd_fetch 201 1123 = some (.aload 1, 1124) := by decide +kernel
theorem pf_201_1124 : pd_fetch 201 1124 = some (.aload 0, 1125) := by decide +kernel
theorem pf_201_1125 : pd_fetch 201 1125 = some (.iload 4, 1127) := by decide +kernel
theorem pf_201_1127 : pd_fetch 201 1127 = some (.iconst 1, 1128) := by decide +kernel
theorem pf_201_1128 : pd_fetch 201 1128 = some (.iadd, 1129) := by decide +kernel
theorem pf_201_1129 : pd_fetch 201 1129 = some (.iaload, 1130) := by decide +kernel
theorem pf_201_1130 : pd_fetch 201 1130 = some (.aload 0, 1131) := by decide +kernel
theorem pf_201_1131 : pd_fetch 201 1131 = some (.iload 4, 1133) := by decide +kernel
theorem pf_201_1133 : pd_fetch 201 1133 = some (.iconst 2, 1134) := by decide +kernel
theorem pf_201_1134 : pd_fetch 201 1134 = some (.iadd, 1135) := by decide +kernel
theorem pf_201_1135 : pd_fetch 201 1135 = some (.iaload, 1136) := by decide +kernel
theorem pf_201_1136 : pd_fetch 201 1136 = some (.ifCond .eq (Int.ofNat 1143), 1139) := by decide +kernel
theorem pf_201_1139 : pd_fetch 201 1139 = some (.iconst 1, 1140) := by decide +kernel
theorem pf_201_1140 : pd_fetch 201 1140 = some (.goto (Int.ofNat 1144), 1143) := by decide +kernel
theorem pf_201_1143 : pd_fetch 201 1143 = some (.iconst 0, 1144) := by decide +kernel
theorem pf_201_1144 : pd_fetch 201 1144 = some (.aload 3, 1145) := by decide +kernel
theorem pf_201_1145 : pd_fetch 201 1145 = some (.invokestatic 192, 1148) := by decide +kernel
theorem pf_201_1148 : pd_fetch 201 1148 = some (.istore 5, 1150) := by decide +kernel
theorem pf_201_1150 : pd_fetch 201 1150 = some (.aload 2, 1151) := by decide +kernel
theorem pf_201_1151 : pd_fetch 201 1151 = some (.aload 0, 1152) := by decide +kernel
theorem pf_201_1152 : pd_fetch 201 1152 = some (.iload 4, 1154) := by decide +kernel
theorem pf_201_1154 : pd_fetch 201 1154 = some (.iconst 1, 1155) := by decide +kernel
theorem pf_201_1155 : pd_fetch 201 1155 = some (.iadd, 1156) := by decide +kernel
theorem pf_201_1156 : pd_fetch 201 1156 = some (.iaload, 1157) := by decide +kernel
theorem pf_201_1157 : pd_fetch 201 1157 = some (.aload 0, 1158) := by decide +kernel
theorem pf_201_1158 : pd_fetch 201 1158 = some (.iload 4, 1160) := by decide +kernel
theorem pf_201_1160 : pd_fetch 201 1160 = some (.iconst 2, 1161) := by decide +kernel
theorem pf_201_1161 : pd_fetch 201 1161 = some (.iadd, 1162) := by decide +kernel
theorem pf_201_1162 : pd_fetch 201 1162 = some (.iaload, 1163) := by decide +kernel
theorem pf_201_1163 : pd_fetch 201 1163 = some (.ifCond .eq (Int.ofNat 1170), 1166) := by decide +kernel
theorem pf_201_1166 : pd_fetch 201 1166 = some (.iconst 1, 1167) := by decide +kernel
theorem pf_201_1167 : pd_fetch 201 1167 = some (.goto (Int.ofNat 1171), 1170) := by decide +kernel
theorem pf_201_1170 : pd_fetch 201 1170 = some (.iconst 0, 1171) := by decide +kernel
theorem pf_201_1171 : pd_fetch 201 1171 = some (.invokevirtual 159, 1174) := by decide +kernel
theorem pf_201_1174 : pd_fetch 201 1174 = some (.lstore 6, 1176) := by decide +kernel
theorem pf_201_1176 : pd_fetch 201 1176 = some (.aload 2, 1177) := by decide +kernel
theorem pf_201_1177 : pd_fetch 201 1177 = some (.invokevirtual 107, 1180) := by decide +kernel
theorem pf_201_1180 : pd_fetch 201 1180 = some (.iload 5, 1182) := by decide +kernel
theorem pf_201_1182 : pd_fetch 201 1182 = some (.if_icmp .eq (Int.ofNat 1187), 1185) := by decide +kernel
theorem pf_201_1185 : pd_fetch 201 1185 = some (.iconst 0, 1186) := by decide +kernel
theorem pf_201_1186 : pd_fetch 201 1186 = some (.ireturn, 1187) := by decide +kernel
theorem pf_201_1187 : pd_fetch 201 1187 = some (.iload 5, 1189) := by decide +kernel
theorem pf_201_1189 : pd_fetch 201 1189 = some (.ifCond .ne (Int.ofNat 1203), 1192) := by decide +kernel
theorem pf_201_1192 : pd_fetch 201 1192 = some (.aload 3, 1193) := by decide +kernel
theorem pf_201_1193 : pd_fetch 201 1193 = some (.iconst 0, 1194) := by decide +kernel
theorem pf_201_1194 : pd_fetch 201 1194 = some (.laload, 1195) := by decide +kernel
theorem pf_201_1195 : pd_fetch 201 1195 = some (.lload 6, 1197) := by decide +kernel
theorem pf_201_1197 : pd_fetch 201 1197 = some (.lcmp, 1198) := by decide +kernel
theorem pf_201_1198 : pd_fetch 201 1198 = some (.ifCond .eq (Int.ofNat 1203), 1201) := by decide +kernel
theorem pf_201_1201 : pd_fetch 201 1201 = some (.iconst 0, 1202) := by decide +kernel
theorem pf_201_1202 : pd_fetch 201 1202 = some (.ireturn, 1203) := by decide +kernel
theorem pf_201_1203 : pd_fetch 201 1203 = some (.goto (Int.ofNat 1951), 1206) := by decide +kernel
theorem pf_201_1206 : pd_fetch 201 1206 = some (.aload 1, 1207) := by decide +kernel
theorem pf_201_1207 : pd_fetch 201 1207 = some (.invokevirtual 81, 1210) := by decide +kernel
theorem pf_201_1210 : pd_fetch 201 1210 = some (.aload 2, 1211) := by decide +kernel
theorem pf_201_1211 : pd_fetch 201 1211 = some (.invokevirtual 160, 1214) := by decide +kernel
theorem pf_201_1214 : pd_fetch 201 1214 = some (.lcmp, 1215) := by decide +kernel
theorem pf_201_1215 : pd_fetch 201 1215 = some (.ifCond .eq (Int.ofNat 1951), 1218) := by decide +kernel
theorem pf_201_1218 : pd_fetch 201 1218 = some (.iconst 0, 1219) := by decide +kernel
theorem pf_201_1219 : pd_fetch 201 1219 = some (.ireturn, 1220) := by decide +kernel
theorem pf_201_1220 : pd_fetch 201 1220 = some (.aload 1, 1221) := by decide +kernel
theorem pf_201_1221 : pd_fetch 201 1221 = some (.invokevirtual 82, 1224) := by decide +kernel
theorem pf_201_1224 : pd_fetch 201 1224 = some (.aload 2, 1225) := by decide +kernel
theorem pf_201_1225 : pd_fetch 201 1225 = some (.invokevirtual 161, 1228) := by decide +kernel
theorem pf_201_1228 : pd_fetch 201 1228 = some (.lcmp, 1229) := by decide +kernel
theorem pf_201_1229 : pd_fetch 201 1229 = some (.ifCond .eq (Int.ofNat 1951), 1232) := by decide +kernel
theorem pf_201_1232 : pd_fetch 201 1232 = some (.iconst 0, 1233) := by decide +kernel
theorem pf_201_1233 : pd_fetch 201 1233 = some (.ireturn, 1234) := by decide +kernel
theorem pf_201_1234 : pd_fetch 201 1234 = some (.aload 1, 1235) := by decide +kernel
theorem pf_201_1235 : pd_fetch 201 1235 = some (.invokevirtual 83, 1238) := by decide +kernel
theorem pf_201_1238 : pd_fetch 201 1238 = some (.aload 2, 1239) := by decide +kernel
theorem pf_201_1239 : pd_fetch 201 1239 = some (.invokevirtual 162, 1242) := by decide +kernel
theorem pf_201_1242 : pd_fetch 201 1242 = some (.if_icmp .eq (Int.ofNat 1951), 1245) := by decide +kernel
theorem pf_201_1245 : pd_fetch 201 1245 = some (.iconst 0, 1246) := by decide +kernel
theorem pf_201_1246 : pd_fetch 201 1246 = some (.ireturn, 1247) := by decide +kernel
theorem pf_201_1247 : pd_fetch 201 1247 = some (.aload 1, 1248) := by decide +kernel
theorem pf_201_1248 : pd_fetch 201 1248 = some (.invokevirtual 84, 1251) := by decide +kernel
theorem pf_201_1251 : pd_fetch 201 1251 = some (.aload 2, 1252) := by decide +kernel
theorem pf_201_1252 : pd_fetch 201 1252 = some (.invokevirtual 163, 1255) := by decide +kernel
theorem pf_201_1255 : pd_fetch 201 1255 = some (.if_icmp .eq (Int.ofNat 1951), 1258) := by decide +kernel
theorem pf_201_1258 : pd_fetch 201 1258 = some (.iconst 0, 1259) := by decide +kernel
theorem pf_201_1259 : pd_fetch 201 1259 = some (.ireturn, 1260) := by decide +kernel
theorem pf_201_1260 : pd_fetch 201 1260 = some (.aload 1, 1261) := by decide +kernel
theorem pf_201_1261 : pd_fetch 201 1261 = some (.invokevirtual 85, 1264) := by decide +kernel
theorem pf_201_1264 : pd_fetch 201 1264 = some (.aload 2, 1265) := by decide +kernel
theorem pf_201_1265 : pd_fetch 201 1265 = some (.invokevirtual 164, 1268) := by decide +kernel
theorem pf_201_1268 : pd_fetch 201 1268 = some (.if_icmp .eq (Int.ofNat 1951), 1271) := by decide +kernel
theorem pf_201_1271 : pd_fetch 201 1271 = some (.iconst 0, 1272) := by decide +kernel
theorem pf_201_1272 : pd_fetch 201 1272 = some (.ireturn, 1273) := by decide +kernel
theorem pf_201_1273 : pd_fetch 201 1273 = some (.aload 1, 1274) := by decide +kernel
theorem pf_201_1274 : pd_fetch 201 1274 = some (.aload 0, 1275) := by decide +kernel
theorem pf_201_1275 : pd_fetch 201 1275 = some (.iload 4, 1277) := by decide +kernel
theorem pf_201_1277 : pd_fetch 201 1277 = some (.iconst 1, 1278) := by decide +kernel
theorem pf_201_1278 : pd_fetch 201 1278 = some (.iadd, 1279) := by decide +kernel
theorem pf_201_1279 : pd_fetch 201 1279 = some (.iaload, 1280) := by decide +kernel
theorem pf_201_1280 : pd_fetch 201 1280 = some (.aload 0, 1281) := by decide +kernel
theorem pf_201_1281 : pd_fetch 201 1281 = some (.iload 4, 1283) := by decide +kernel
theorem pf_201_1283 : pd_fetch 201 1283 = some (.iconst 2, 1284) := by decide +kernel
theorem pf_201_1284 : pd_fetch 201 1284 = some (.iadd, 1285) := by decide +kernel
theorem pf_201_1285 : pd_fetch 201 1285 = some (.iaload, 1286) := by decide +kernel
theorem pf_201_1286 : pd_fetch 201 1286 = some (.aload 0, 1287) := by decide +kernel
theorem pf_201_1287 : pd_fetch 201 1287 = some (.iload 4, 1289) := by decide +kernel
theorem pf_201_1289 : pd_fetch 201 1289 = some (.iconst 3, 1290) := by decide +kernel
theorem pf_201_1290 : pd_fetch 201 1290 = some (.iadd, 1291) := by decide +kernel
theorem pf_201_1291 : pd_fetch 201 1291 = some (.iaload, 1292) := by decide +kernel
theorem pf_201_1292 : pd_fetch 201 1292 = some (.aload 0, 1293) := by decide +kernel
theorem pf_201_1293 : pd_fetch 201 1293 = some (.iload 4, 1295) := by decide +kernel
theorem pf_201_1295 : pd_fetch 201 1295 = some (.iconst 4, 1296) := by decide +kernel
theorem pf_201_1296 : pd_fetch 201 1296 = some (.iadd, 1297) := by decide +kernel
theorem pf_201_1297 : pd_fetch 201 1297 = some (.iaload, 1298) := by decide +kernel
theorem pf_201_1298 : pd_fetch 201 1298 = some (.aload 3, 1299) := by decide +kernel
theorem pf_201_1299 : pd_fetch 201 1299 = some (.invokestatic 193, 1302) := by decide +kernel
theorem pf_201_1302 : pd_fetch 201 1302 = some (.istore 5, 1304) := by decide +kernel
theorem pf_201_1304 : pd_fetch 201 1304 = some (.aload 2, 1305) := by decide +kernel
theorem pf_201_1305 : pd_fetch 201 1305 = some (.aload 0, 1306) := by decide +kernel
theorem pf_201_1306 : pd_fetch 201 1306 = some (.iload 4, 1308) := by decide +kernel
theorem pf_201_1308 : pd_fetch 201 1308 = some (.iconst 1, 1309) := by decide +kernel
theorem pf_201_1309 : pd_fetch 201 1309 = some (.iadd, 1310) := by decide +kernel
theorem pf_201_1310 : pd_fetch 201 1310 = some (.iaload, 1311) := by decide +kernel
theorem pf_201_1311 : pd_fetch 201 1311 = some (.aload 0, 1312) := by decide +kernel
theorem pf_201_1312 : pd_fetch 201 1312 = some (.iload 4, 1314) := by decide +kernel
theorem pf_201_1314 : pd_fetch 201 1314 = some (.iconst 2, 1315) := by decide +kernel
theorem pf_201_1315 : pd_fetch 201 1315 = some (.iadd, 1316) := by decide +kernel
theorem pf_201_1316 : pd_fetch 201 1316 = some (.iaload, 1317) := by decide +kernel
theorem pf_201_1317 : pd_fetch 201 1317 = some (.aload 0, 1318) := by decide +kernel
theorem pf_201_1318 : pd_fetch 201 1318 = some (.iload 4, 1320) := by decide +kernel
theorem pf_201_1320 : pd_fetch 201 1320 = some (.iconst 3, 1321) := by decide +kernel
theorem pf_201_1321 : pd_fetch 201 1321 = some (.iadd, 1322) := by decide +kernel
theorem pf_201_1322 : pd_fetch 201 1322 = some (.iaload, 1323) := by decide +kernel
theorem pf_201_1323 : pd_fetch 201 1323 = some (.aload 0, 1324) := by decide +kernel
theorem pf_201_1324 : pd_fetch 201 1324 = some (.iload 4, 1326) := by decide +kernel
theorem pf_201_1326 : pd_fetch 201 1326 = some (.iconst 4, 1327) := by decide +kernel
theorem pf_201_1327 : pd_fetch 201 1327 = some (.iadd, 1328) := by decide +kernel
theorem pf_201_1328 : pd_fetch 201 1328 = some (.iaload, 1329) := by decide +kernel
theorem pf_201_1329 : pd_fetch 201 1329 = some (.invokevirtual 165, 1332) := by decide +kernel
theorem pf_201_1332 : pd_fetch 201 1332 = some (.istore 6, 1334) := by decide +kernel
theorem pf_201_1334 : pd_fetch 201 1334 = some (.aload 2, 1335) := by decide +kernel
theorem pf_201_1335 : pd_fetch 201 1335 = some (.invokevirtual 107, 1338) := by decide +kernel
theorem pf_201_1338 : pd_fetch 201 1338 = some (.iload 5, 1340) := by decide +kernel
theorem pf_201_1340 : pd_fetch 201 1340 = some (.if_icmp .eq (Int.ofNat 1345), 1343) := by decide +kernel
theorem pf_201_1343 : pd_fetch 201 1343 = some (.iconst 0, 1344) := by decide +kernel
theorem pf_201_1344 : pd_fetch 201 1344 = some (.ireturn, 1345) := by decide +kernel
theorem pf_201_1345 : pd_fetch 201 1345 = some (.iload 5, 1347) := by decide +kernel
theorem pf_201_1347 : pd_fetch 201 1347 = some (.ifCond .ne (Int.ofNat 1362), 1350) := by decide +kernel
theorem pf_201_1350 : pd_fetch 201 1350 = some (.aload 3, 1351) := by decide +kernel
theorem pf_201_1351 : pd_fetch 201 1351 = some (.iconst 0, 1352) := by decide +kernel
theorem pf_201_1352 : pd_fetch 201 1352 = some (.laload, 1353) := by decide +kernel
theorem pf_201_1353 : pd_fetch 201 1353 = some (.iload 6, 1355) := by decide +kernel
theorem pf_201_1355 : pd_fetch 201 1355 = some (.i2l, 1356) := by decide +kernel
theorem pf_201_1356 : pd_fetch 201 1356 = some (.lcmp, 1357) := by decide +kernel
theorem pf_201_1357 : pd_fetch 201 1357 = some (.ifCond .eq (Int.ofNat 1362), 1360) := by decide +kernel
theorem pf_201_1360 : pd_fetch 201 1360 = some (.iconst 0, 1361) := by decide +kernel
theorem pf_201_1361 : pd_fetch 201 1361 = some (.ireturn, 1362) := by decide +kernel
theorem pf_201_1362 : pd_fetch 201 1362 = some (.goto (Int.ofNat 1951), 1365) := by decide +kernel
theorem pf_201_1365 : pd_fetch 201 1365 = some (.aload 1, 1366) := by decide +kernel
theorem pf_201_1366 : pd_fetch 201 1366 = some (.invokevirtual 87, 1369) := by decide +kernel
theorem pf_201_1369 : pd_fetch 201 1369 = some (.aload 2, 1370) := by decide +kernel
theorem pf_201_1370 : pd_fetch 201 1370 = some (.invokevirtual 166, 1373) := by decide +kernel
theorem pf_201_1373 : pd_fetch 201 1373 = some (.if_icmp .eq (Int.ofNat 1951), 1376) := by decide +kernel
theorem pf_201_1376 : pd_fetch 201 1376 = some (.iconst 0, 1377) := by decide +kernel
theorem pf_201_1377 : pd_fetch 201 1377 = some (.ireturn, 1378) := by decide +kernel
theorem pf_201_1378 : pd_fetch 201 1378 = some (.aload 1, 1379) := by decide +kernel
theorem pf_201_1379 : pd_fetch 201 1379 = some (.aload 0, 1380) := by decide +kernel
theorem pf_201_1380 : pd_fetch 201 1380 = some (.iload 4, 1382) := by decide +kernel
theorem pf_201_1382 : pd_fetch 201 1382 = some (.iconst 1, 1383) := by decide +kernel
theorem pf_201_1383 : pd_fetch 201 1383 = some (.iadd, 1384) := by decide +kernel
theorem pf_201_1384 : pd_fetch 201 1384 = some (.iaload, 1385) := by decide +kernel
theorem pf_201_1385 : pd_fetch 201 1385 = some (.aload 0, 1386) := by decide +kernel
theorem pf_201_1386 : pd_fetch 201 1386 = some (.iload 4, 1388) := by decide +kernel
theorem pf_201_1388 : pd_fetch 201 1388 = some (.iconst 2, 1389) := by decide +kernel
theorem pf_201_1389 : pd_fetch 201 1389 = some (.iadd, 1390) := by decide +kernel
theorem pf_201_1390 : pd_fetch 201 1390 = some (.iaload, 1391) := by decide +kernel
theorem pf_201_1391 : pd_fetch 201 1391 = some (.aload 0, 1392) := by decide +kernel
theorem pf_201_1392 : pd_fetch 201 1392 = some (.iload 4, 1394) := by decide +kernel
theorem pf_201_1394 : pd_fetch 201 1394 = some (.iconst 3, 1395) := by decide +kernel
theorem pf_201_1395 : pd_fetch 201 1395 = some (.iadd, 1396) := by decide +kernel
theorem pf_201_1396 : pd_fetch 201 1396 = some (.iaload, 1397) := by decide +kernel
theorem pf_201_1397 : pd_fetch 201 1397 = some (.ifCond .eq (Int.ofNat 1404), 1400) := by decide +kernel
theorem pf_201_1400 : pd_fetch 201 1400 = some (.iconst 1, 1401) := by decide +kernel
theorem pf_201_1401 : pd_fetch 201 1401 = some (.goto (Int.ofNat 1405), 1404) := by decide +kernel
theorem pf_201_1404 : pd_fetch 201 1404 = some (.iconst 0, 1405) := by decide +kernel
theorem pf_201_1405 : pd_fetch 201 1405 = some (.aload 3, 1406) := by decide +kernel
theorem pf_201_1406 : pd_fetch 201 1406 = some (.invokestatic 194, 1409) := by decide +kernel
theorem pf_201_1409 : pd_fetch 201 1409 = some (.istore 5, 1411) := by decide +kernel
theorem pf_201_1411 : pd_fetch 201 1411 = some (.aload 2, 1412) := by decide +kernel
theorem pf_201_1412 : pd_fetch 201 1412 = some (.aload 0, 1413) := by decide +kernel
theorem pf_201_1413 : pd_fetch 201 1413 = some (.iload 4, 1415) := by decide +kernel
theorem pf_201_1415 : pd_fetch 201 1415 = some (.iconst 1, 1416) := by decide +kernel
theorem pf_201_1416 : pd_fetch 201 1416 = some (.iadd, 1417) := by decide +kernel
theorem pf_201_1417 : pd_fetch 201 1417 = some (.iaload, 1418) := by decide +kernel
theorem pf_201_1418 : pd_fetch 201 1418 = some (.aload 0, 1419) := by decide +kernel
theorem pf_201_1419 : pd_fetch 201 1419 = some (.iload 4, 1421) := by decide +kernel
theorem pf_201_1421 : pd_fetch 201 1421 = some (.iconst 2, 1422) := by decide +kernel
theorem pf_201_1422 : pd_fetch 201 1422 = some (.iadd, 1423) := by decide +kernel
theorem pf_201_1423 : pd_fetch 201 1423 = some (.iaload, 1424) := by decide +kernel
theorem pf_201_1424 : pd_fetch 201 1424 = some (.aload 0, 1425) := by decide +kernel
theorem pf_201_1425 : pd_fetch 201 1425 = some (.iload 4, 1427) := by decide +kernel
theorem pf_201_1427 : pd_fetch 201 1427 = some (.iconst 3, 1428) := by decide +kernel
theorem pf_201_1428 : pd_fetch 201 1428 = some (.iadd, 1429) := by decide +kernel
theorem pf_201_1429 : pd_fetch 201 1429 = some (.iaload, 1430) := by decide +kernel
theorem pf_201_1430 : pd_fetch 201 1430 = some (.ifCond .eq (Int.ofNat 1437), 1433) := by decide +kernel
theorem pf_201_1433 : pd_fetch 201 1433 = some (.iconst 1, 1434) := by decide +kernel
theorem pf_201_1434 : pd_fetch 201 1434 = some (.goto (Int.ofNat 1438), 1437) := by decide +kernel
theorem pf_201_1437 : pd_fetch 201 1437 = some (.iconst 0, 1438) := by decide +kernel
theorem pf_201_1438 : pd_fetch 201 1438 = some (.invokevirtual 168, 1441) := by decide +kernel
theorem pf_201_1441 : pd_fetch 201 1441 = some (.lstore 6, 1443) := by decide +kernel
theorem pf_201_1443 : pd_fetch 201 1443 = some (.aload 2, 1444) := by decide +kernel
theorem pf_201_1444 : pd_fetch 201 1444 = some (.invokevirtual 107, 1447) := by decide +kernel
theorem pf_201_1447 : pd_fetch 201 1447 = some (.iload 5, 1449) := by decide +kernel
theorem pf_201_1449 : pd_fetch 201 1449 = some (.if_icmp .eq (Int.ofNat 1454), 1452) := by decide +kernel
theorem pf_201_1452 : pd_fetch 201 1452 = some (.iconst 0, 1453) := by decide +kernel
theorem pf_201_1453 : pd_fetch 201 1453 = some (.ireturn, 1454) := by decide +kernel
theorem pf_201_1454 : pd_fetch 201 1454 = some (.iload 5, 1456) := by decide +kernel
theorem pf_201_1456 : pd_fetch 201 1456 = some (.ifCond .ne (Int.ofNat 1470), 1459) := by decide +kernel
theorem pf_201_1459 : pd_fetch 201 1459 = some (.aload 3, 1460) := by decide +kernel
theorem pf_201_1460 : pd_fetch 201 1460 = some (.iconst 0, 1461) := by decide +kernel
theorem pf_201_1461 : pd_fetch 201 1461 = some (.laload, 1462) := by decide +kernel
theorem pf_201_1462 : pd_fetch 201 1462 = some (.lload 6, 1464) := by decide +kernel
theorem pf_201_1464 : pd_fetch 201 1464 = some (.lcmp, 1465) := by decide +kernel
theorem pf_201_1465 : pd_fetch 201 1465 = some (.ifCond .eq (Int.ofNat 1470), 1468) := by decide +kernel
theorem pf_201_1468 : pd_fetch 201 1468 = some (.iconst 0, 1469) := by decide +kernel
theorem pf_201_1469 : pd_fetch 201 1469 = some (.ireturn, 1470) := by decide +kernel
theorem pf_201_1470 : pd_fetch 201 1470 = some (.goto (Int.ofNat 1951), 1473) := by decide +kernel
theorem pf_201_1473 : pd_fetch 201 1473 = some (.aload 1, 1474) := by decide +kernel
theorem pf_201_1474 : pd_fetch 201 1474 = some (.aload 0, 1475) := by decide +kernel
theorem pf_201_1475 : pd_fetch 201 1475 = some (.iload 4, 1477) := by decide +kernel
theorem pf_201_1477 : pd_fetch 201 1477 = some (.iconst 1, 1478) := by decide +kernel
theorem pf_201_1478 : pd_fetch 201 1478 = some (.iadd, 1479) := by decide +kernel
theorem pf_201_1479 : pd_fetch 201 1479 = some (.iaload, 1480) := by decide +kernel
theorem pf_201_1480 : pd_fetch 201 1480 = some (.aload 0, 1481) := by decide +kernel
theorem pf_201_1481 : pd_fetch 201 1481 = some (.iload 4, 1483) := by decide +kernel
theorem pf_201_1483 : pd_fetch 201 1483 = some (.iconst 2, 1484) := by decide +kernel
theorem pf_201_1484 : pd_fetch 201 1484 = some (.iadd, 1485) := by decide +kernel
theorem pf_201_1485 : pd_fetch 201 1485 = some (.iaload, 1486) := by decide +kernel
theorem pf_201_1486 : pd_fetch 201 1486 = some (.aload 3, 1487) := by decide +kernel
theorem pf_201_1487 : pd_fetch 201 1487 = some (.invokestatic 195, 1490) := by decide +kernel
theorem pf_201_1490 : pd_fetch 201 1490 = some (.istore 5, 1492) := by decide +kernel
theorem pf_201_1492 : pd_fetch 201 1492 = some (.aload 2, 1493) := by decide +kernel
theorem pf_201_1493 : pd_fetch 201 1493 = some (.aload 0, 1494) := by decide +kernel
theorem pf_201_1494 : pd_fetch 201 1494 = some (.iload 4, 1496) := by decide +kernel
theorem pf_201_1496 : pd_fetch 201 1496 = some (.iconst 1, 1497) := by decide +kernel
theorem pf_201_1497 : pd_fetch 201 1497 = some (.iadd, 1498) := by decide +kernel
theorem pf_201_1498 : pd_fetch 201 1498 = some (.iaload, 1499) := by decide +kernel
theorem pf_201_1499 : pd_fetch 201 1499 = some (.aload 0, 1500) := by decide +kernel
theorem pf_201_1500 : pd_fetch 201 1500 = some (.iload 4, 1502) := by decide +kernel
theorem pf_201_1502 : pd_fetch 201 1502 = some (.iconst 2, 1503) := by decide +kernel
theorem pf_201_1503 : pd_fetch 201 1503 = some (.iadd, 1504) := by decide +kernel
theorem pf_201_1504 : pd_fetch 201 1504 = some (.iaload, 1505) := by decide +kernel
theorem pf_201_1505 : pd_fetch 201 1505 = some (.invokevirtual 169, 1508) := by decide +kernel
theorem pf_201_1508 : pd_fetch 201 1508 = some (.lstore 6, 1510) := by decide +kernel
theorem pf_201_1510 : pd_fetch 201 1510 = some (.aload 2, 1511) := by decide +kernel
theorem pf_201_1511 : pd_fetch 201 1511 = some (.invokevirtual 107, 1514) := by decide +kernel
theorem pf_201_1514 : pd_fetch 201 1514 = some (.iload 5, 1516) := by decide +kernel
theorem pf_201_1516 : pd_fetch 201 1516 = some (.if_icmp .eq (Int.ofNat 1521), 1519) := by decide +kernel
theorem pf_201_1519 : pd_fetch 201 1519 = some (.iconst 0, 1520) := by decide +kernel
theorem pf_201_1520 : pd_fetch 201 1520 = some (.ireturn, 1521) := by decide +kernel
theorem pf_201_1521 : pd_fetch 201 1521 = some (.iload 5, 1523) := by decide +kernel
theorem pf_201_1523 : pd_fetch 201 1523 = some (.ifCond .ne (Int.ofNat 1537), 1526) := by decide +kernel
theorem pf_201_1526 : pd_fetch 201 1526 = some (.aload 3, 1527) := by decide +kernel
theorem pf_201_1527 : pd_fetch 201 1527 = some (.iconst 0, 1528) := by decide +kernel
theorem pf_201_1528 : pd_fetch 201 1528 = some (.laload, 1529) := by decide +kernel
theorem pf_201_1529 : pd_fetch 201 1529 = some (.lload 6, 1531) := by decide +kernel
theorem pf_201_1531 : pd_fetch 201 1531 = some (.lcmp, 1532) := by decide +kernel
theorem pf_201_1532 : pd_fetch 201 1532 = some (.ifCond .eq (Int.ofNat 1537), 1535) := by decide +kernel
