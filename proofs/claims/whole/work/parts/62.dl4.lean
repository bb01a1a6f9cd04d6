/-! decode rows of the law -/
theorem d_L_law_1178 : decode code 1178 = .ok (.aload_n 3, 1) := by decide +kernel
theorem d_L_law_1179 : decode code 1179 = .ok (.iconst 0, 1) := by decide +kernel
theorem d_L_law_1180 : decode code 1180 = .ok (.laload, 1) := by decide +kernel
theorem d_L_law_1181 : decode code 1181 = .ok (.iload 6, 2) := by decide +kernel
theorem d_L_law_1183 : decode code 1183 = .ok (.i2l, 1) := by decide +kernel
theorem d_L_law_1184 : decode code 1184 = .ok (.lcmp, 1) := by decide +kernel
theorem d_L_law_1185 : decode code 1185 = .ok (.ifCond .eq 5, 3) := by decide +kernel
theorem d_L_law_1188 : decode code 1188 = .ok (.iconst 0, 1) := by decide +kernel
theorem d_L_law_1189 : decode code 1189 = .ok (.ireturn, 1) := by decide +kernel
theorem d_L_law_1190 : decode code 1190 = .ok (.goto 510, 3) := by decide +kernel
theorem d_L_law_1193 : decode code 1193 = .ok (.aload_n 1, 1) := by decide +kernel
theorem d_L_law_1194 : decode code 1194 = .ok (.aload_n 0, 1) := by decide +kernel
theorem d_L_law_1195 : decode code 1195 = .ok (.iload 4, 2) := by decide +kernel
theorem d_L_law_1197 : decode code 1197 = .ok (.iconst 1, 1) := by decide +kernel
theorem d_L_law_1198 : decode code 1198 = .ok (.iadd, 1) := by decide +kernel
theorem d_L_law_1199 : decode code 1199 = .ok (.iaload, 1) := by decide +kernel
theorem d_L_law_1200 : decode code 1200 = .ok (.aload_n 0, 1) := by decide +kernel
theorem d_L_law_1201 : decode code 1201 = .ok (.iload 4, 2) := by decide +kernel
theorem d_L_law_1203 : decode code 1203 = .ok (.iconst 2, 1) := by decide +kernel
theorem d_L_law_1204 : decode code 1204 = .ok (.iadd, 1) := by decide +kernel
theorem d_L_law_1205 : decode code 1205 = .ok (.iaload, 1) := by decide +kernel
theorem d_L_law_1206 : decode code 1206 = .ok (.aload_n 3, 1) := by decide +kernel
theorem d_L_law_1207 : decode code 1207 = .ok (.invokestatic 156, 3) := by decide +kernel
theorem d_L_law_1210 : decode code 1210 = .ok (.istore 5, 2) := by decide +kernel
theorem d_L_law_1212 : decode code 1212 = .ok (.aload_n 2, 1) := by decide +kernel
theorem d_L_law_1213 : decode code 1213 = .ok (.aload_n 0, 1) := by decide +kernel
theorem d_L_law_1214 : decode code 1214 = .ok (.iload 4, 2) := by decide +kernel
theorem d_L_law_1216 : decode code 1216 = .ok (.iconst 1, 1) := by decide +kernel
theorem d_L_law_1217 : decode code 1217 = .ok (.iadd, 1) := by decide +kernel
theorem d_L_law_1218 : decode code 1218 = .ok (.iaload, 1) := by decide +kernel
theorem d_L_law_1219 : decode code 1219 = .ok (.aload_n 0, 1) := by decide +kernel
theorem d_L_law_1220 : decode code 1220 = .ok (.iload 4, 2) := by decide +kernel
theorem d_L_law_1222 : decode code 1222 = .ok (.iconst 2, 1) := by decide +kernel
theorem d_L_law_1223 : decode code 1223 = .ok (.iadd, 1) := by decide +kernel
theorem d_L_law_1224 : decode code 1224 = .ok (.iaload, 1) := by decide +kernel
theorem d_L_law_1225 : decode code 1225 = .ok (.invokevirtual 158, 3) := by decide +kernel
theorem d_L_law_1228 : decode code 1228 = .ok (.istore 6, 2) := by decide +kernel
theorem d_L_law_1230 : decode code 1230 = .ok (.aload_n 2, 1) := by decide +kernel
theorem d_L_law_1231 : decode code 1231 = .ok (.invokevirtual 109, 3) := by decide +kernel
theorem d_L_law_1234 : decode code 1234 = .ok (.iload 5, 2) := by decide +kernel
theorem d_L_law_1236 : decode code 1236 = .ok (.if_icmp .eq 5, 3) := by decide +kernel
theorem d_L_law_1239 : decode code 1239 = .ok (.iconst 0, 1) := by decide +kernel
theorem d_L_law_1240 : decode code 1240 = .ok (.ireturn, 1) := by decide +kernel
theorem d_L_law_1241 : decode code 1241 = .ok (.iload 5, 2) := by decide +kernel
theorem d_L_law_1243 : decode code 1243 = .ok (.ifCond .ne 15, 3) := by decide +kernel
theorem d_L_law_1246 : decode code 1246 = .ok (.aload_n 3, 1) := by decide +kernel
theorem d_L_law_1247 : decode code 1247 = .ok (.iconst 0, 1) := by decide +kernel
theorem d_L_law_1248 : decode code 1248 = .ok (.laload, 1) := by decide +kernel
theorem d_L_law_1249 : decode code 1249 = .ok (.iload 6, 2) := by decide +kernel
theorem d_L_law_1251 : decode code 1251 = .ok (.i2l, 1) := by decide +kernel
theorem d_L_law_1252 : decode code 1252 = .ok (.lcmp, 1) := by decide +kernel
theorem d_L_law_1253 : decode code 1253 = .ok (.ifCond .eq 5, 3) := by decide +kernel
theorem d_L_law_1256 : decode code 1256 = .ok (.iconst 0, 1) := by decide +kernel
theorem d_L_law_1257 : decode code 1257 = .ok (.ireturn, 1) := by decide +kernel
theorem d_L_law_1258 : decode code 1258 = .ok (.goto 442, 3) := by decide +kernel
theorem d_L_law_1261 : decode code 1261 = .ok (.aload_n 1, 1) := by decide +kernel
theorem d_L_law_1262 : decode code 1262 = .ok (.aload_n 0, 1) := by decide +kernel
theorem d_L_law_1263 : decode code 1263 = .ok (.iload 4, 2) := by decide +kernel
theorem d_L_law_1265 : decode code 1265 = .ok (.iconst 1, 1) := by decide +kernel
theorem d_L_law_1266 : decode code 1266 = .ok (.iadd, 1) := by decide +kernel
theorem d_L_law_1267 : decode code 1267 = .ok (.iaload, 1) := by decide +kernel
theorem d_L_law_1268 : decode code 1268 = .ok (.aload_n 0, 1) := by decide +kernel
theorem d_L_law_1269 : decode code 1269 = .ok (.iload 4, 2) := by decide +kernel
theorem d_L_law_1271 : decode code 1271 = .ok (.iconst 2, 1) := by decide +kernel
theorem d_L_law_1272 : decode code 1272 = .ok (.iadd, 1) := by decide +kernel
theorem d_L_law_1273 : decode code 1273 = .ok (.iaload, 1) := by decide +kernel
theorem d_L_law_1274 : decode code 1274 = .ok (.aload_n 3, 1) := by decide +kernel
theorem d_L_law_1275 : decode code 1275 = .ok (.invokestatic 159, 3) := by decide +kernel
theorem d_L_law_1278 : decode code 1278 = .ok (.istore 5, 2) := by decide +kernel
theorem d_L_law_1280 : decode code 1280 = .ok (.aload_n 2, 1) := by decide +kernel
theorem d_L_law_1281 : decode code 1281 = .ok (.aload_n 0, 1) := by decide +kernel
theorem d_L_law_1282 : decode code 1282 = .ok (.iload 4, 2) := by decide +kernel
theorem d_L_law_1284 : decode code 1284 = .ok (.iconst 1, 1) := by decide +kernel
theorem d_L_law_1285 : decode code 1285 = .ok (.iadd, 1) := by decide +kernel
theorem d_L_law_1286 : decode code 1286 = .ok (.iaload, 1) := by decide +kernel
theorem d_L_law_1287 : decode code 1287 = .ok (.aload_n 0, 1) := by decide +kernel
theorem d_L_law_1288 : decode code 1288 = .ok (.iload 4, 2) := by decide +kernel
theorem d_L_law_1290 : decode code 1290 = .ok (.iconst 2, 1) := by decide +kernel
theorem d_L_law_1291 : decode code 1291 = .ok (.iadd, 1) := by decide +kernel
theorem d_L_law_1292 : decode code 1292 = .ok (.iaload, 1) := by decide +kernel
theorem d_L_law_1293 : decode code 1293 = .ok (.invokevirtual 161, 3) := by decide +kernel
theorem d_L_law_1296 : decode code 1296 = .ok (.istore 6, 2) := by decide +kernel
theorem d_L_law_1298 : decode code 1298 = .ok (.aload_n 2, 1) := by decide +kernel
theorem d_L_law_1299 : decode code 1299 = .ok (.invokevirtual 109, 3) := by decide +kernel
theorem d_L_law_1302 : decode code 1302 = .ok (.iload 5, 2) := by decide +kernel
theorem d_L_law_1304 : decode code 1304 = .ok (.if_icmp .eq 5, 3) := by decide +kernel
theorem d_L_law_1307 : decode code 1307 = .ok (.iconst 0, 1) := by decide +kernel
theorem d_L_law_1308 : decode code 1308 = .ok (.ireturn, 1) := by decide +kernel
theorem d_L_law_1309 : decode code 1309 = .ok (.iload 5, 2) := by decide +kernel
theorem d_L_law_1311 : decode code 1311 = .ok (.ifCond .ne 15, 3) := by decide +kernel
theorem d_L_law_1314 : decode code 1314 = .ok (.aload_n 3, 1) := by decide +kernel
theorem d_L_law_1315 : decode code 1315 = .ok (.iconst 0, 1) := by decide +kernel
theorem d_L_law_1316 : decode code 1316 = .ok (.laload, 1) := by decide +kernel
theorem d_L_law_1317 : decode code 1317 = .ok (.iload 6, 2) := by decide +kernel
theorem d_L_law_1319 : decode code 1319 = .ok (.i2l, 1) := by decide +kernel
theorem d_L_law_1320 : decode code 1320 = .ok (.lcmp, 1) := by decide +kernel
theorem d_L_law_1321 : decode code 1321 = .ok (.ifCond .eq 5, 3) := by decide +kernel
theorem d_L_law_1324 : decode code 1324 = .ok (.iconst 0, 1) := by decide +kernel
theorem d_L_law_1325 : decode code 1325 = .ok (.ireturn, 1) := by decide +kernel
theorem d_L_law_1326 : decode code 1326 = .ok (.goto 374, 3) := by decide +kernel
theorem d_L_law_1329 : decode code 1329 = .ok (.aload_n 1, 1) := by decide +kernel
theorem d_L_law_1330 : decode code 1330 = .ok (.aload_n 0, 1) := by decide +kernel
theorem d_L_law_1331 : decode code 1331 = .ok (.iload 4, 2) := by decide +kernel
theorem d_L_law_1333 : decode code 1333 = .ok (.iconst 1, 1) := by decide +kernel
theorem d_L_law_1334 : decode code 1334 = .ok (.iadd, 1) := by decide +kernel
theorem d_L_law_1335 : decode code 1335 = .ok (.iaload, 1) := by decide +kernel
theorem d_L_law_1336 : decode code 1336 = .ok (.aload_n 0, 1) := by decide +kernel
theorem d_L_law_1337 : decode code 1337 = .ok (.iload 4, 2) := by decide +kernel
theorem d_L_law_1339 : decode code 1339 = .ok (.iconst 2, 1) := by decide +kernel
theorem d_L_law_1340 : decode code 1340 = .ok (.iadd, 1) := by decide +kernel
theorem d_L_law_1341 : decode code 1341 = .ok (.iaload, 1) := by decide +kernel
theorem d_L_law_1342 : decode code 1342 = .ok (.aload_n 0, 1) := by decide +kernel
theorem d_L_law_1343 : decode code 1343 = .ok (.iload 4, 2) := by decide +kernel
theorem d_L_law_1345 : decode code 1345 = .ok (.iconst 3, 1) := by decide +kernel
theorem d_L_law_1346 : decode code 1346 = .ok (.iadd, 1) := by decide +kernel
theorem d_L_law_1347 : decode code 1347 = .ok (.iaload, 1) := by decide +kernel
theorem d_L_law_1348 : decode code 1348 = .ok (.aload_n 3, 1) := by decide +kernel
theorem d_L_law_1349 : decode code 1349 = .ok (.invokestatic 162, 3) := by decide +kernel
theorem d_L_law_1352 : decode code 1352 = .ok (.istore 5, 2) := by decide +kernel
theorem d_L_law_1354 : decode code 1354 = .ok (.aload_n 2, 1) := by decide +kernel
theorem d_L_law_1355 : decode code 1355 = .ok (.aload_n 0, 1) := by decide +kernel
theorem d_L_law_1356 : decode code 1356 = .ok (.iload 4, 2) := by decide +kernel
theorem d_L_law_1358 : decode code 1358 = .ok (.iconst 1, 1) := by decide +kernel
theorem d_L_law_1359 : decode code 1359 = .ok (.iadd, 1) := by decide +kernel
theorem d_L_law_1360 : decode code 1360 = .ok (.iaload, 1) := by decide +kernel
theorem d_L_law_1361 : decode code 1361 = .ok (.aload_n 0, 1) := by decide +kernel
theorem d_L_law_1362 : decode code 1362 = .ok (.iload 4, 2) := by decide +kernel
theorem d_L_law_1364 : decode code 1364 = .ok (.iconst 2, 1) := by decide +kernel
theorem d_L_law_1365 : decode code 1365 = .ok (.iadd, 1) := by decide +kernel
theorem d_L_law_1366 : decode code 1366 = .ok (.iaload, 1) := by decide +kernel
theorem d_L_law_1367 : decode code 1367 = .ok (.aload_n 0, 1) := by decide +kernel
theorem d_L_law_1368 : decode code 1368 = .ok (.iload 4, 2) := by decide +kernel
theorem d_L_law_1370 : decode code 1370 = .ok (.iconst 3, 1) := by decide +kernel
theorem d_L_law_1371 : decode code 1371 = .ok (.iadd, 1) := by decide +kernel
theorem d_L_law_1372 : decode code 1372 = .ok (.iaload, 1) := by decide +kernel
theorem d_L_law_1373 : decode code 1373 = .ok (.invokevirtual 165, 3) := by decide +kernel
theorem d_L_law_1376 : decode code 1376 = .ok (.istore 6, 2) := by decide +kernel
theorem d_L_law_1378 : decode code 1378 = .ok (.aload_n 2, 1) := by decide +kernel
theorem d_L_law_1379 : decode code 1379 = .ok (.invokevirtual 109, 3) := by decide +kernel
theorem d_L_law_1382 : decode code 1382 = .ok (.iload 5, 2) := by decide +kernel
theorem d_L_law_1384 : decode code 1384 = .ok (.if_icmp .eq 5, 3) := by decide +kernel
theorem d_L_law_1387 : decode code 1387 = .ok (.iconst 0, 1) := by decide +kernel
theorem d_L_law_1388 : decode code 1388 = .ok (.ireturn, 1) := by decide +kernel
theorem d_L_law_1389 : decode code 1389 = .ok (.iload 5, 2) := by decide +kernel
theorem d_L_law_1391 : decode code 1391 = .ok (.ifCond .ne 15, 3) := by decide +kernel
theorem d_L_law_1394 : decode code 1394 = .ok (.aload_n 3, 1) := by decide +kernel
theorem d_L_law_1395 : decode code 1395 = .ok (.iconst 0, 1) := by decide +kernel
theorem d_L_law_1396 : decode code 1396 = .ok (.laload, 1) := by decide +kernel
theorem d_L_law_1397 : decode code 1397 = .ok (.iload 6, 2) := by decide +kernel
theorem d_L_law_1399 : decode code 1399 = .ok (.i2l, 1) := by decide +kernel
theorem d_L_law_1400 : decode code 1400 = .ok (.lcmp, 1) := by decide +kernel
theorem d_L_law_1401 : decode code 1401 = .ok (.ifCond .eq 5, 3) := by decide +kernel
theorem d_L_law_1404 : decode code 1404 = .ok (.iconst 0, 1) := by decide +kernel
theorem d_L_law_1405 : decode code 1405 = .ok (.ireturn, 1) := by decide +kernel
theorem d_L_law_1406 : decode code 1406 = .ok (.goto 294, 3) := by decide +kernel
theorem d_L_law_1409 : decode code 1409 = .ok (.aload_n 1, 1) := by decide +kernel
theorem d_L_law_1410 : decode code 1410 = .ok (.aload_n 0, 1) := by decide +kernel
theorem d_L_law_1411 : decode code 1411 = .ok (.iload 4, 2) := by decide +kernel
theorem d_L_law_1413 : decode code 1413 = .ok (.iconst 1, 1) := by decide +kernel
theorem d_L_law_1414 : decode code 1414 = .ok (.iadd, 1) := by decide +kernel
theorem d_L_law_1415 : decode code 1415 = .ok (.iaload, 1) := by decide +kernel
theorem d_L_law_1416 : decode code 1416 = .ok (.aload_n 0, 1) := by decide +kernel
theorem d_L_law_1417 : decode code 1417 = .ok (.iload 4, 2) := by decide +kernel
theorem d_L_law_1419 : decode code 1419 = .ok (.iconst 2, 1) := by decide +kernel
theorem d_L_law_1420 : decode code 1420 = .ok (.iadd, 1) := by decide +kernel
theorem d_L_law_1421 : decode code 1421 = .ok (.iaload, 1) := by decide +kernel
theorem d_L_law_1422 : decode code 1422 = .ok (.aload_n 0, 1) := by decide +kernel
theorem d_L_law_1423 : decode code 1423 = .ok (.iload 4, 2) := by decide +kernel
theorem d_L_law_1425 : decode code 1425 = .ok (.iconst 3, 1) := by decide +kernel
theorem d_L_law_1426 : decode code 1426 = .ok (.iadd, 1) := by decide +kernel
theorem d_L_law_1427 : decode code 1427 = .ok (.iaload, 1) := by decide +kernel
theorem d_L_law_1428 : decode code 1428 = .ok (.aload_n 3, 1) := by decide +kernel
theorem d_L_law_1429 : decode code 1429 = .ok (.invokestatic 166, 3) := by decide +kernel
theorem d_L_law_1432 : decode code 1432 = .ok (.istore 5, 2) := by decide +kernel
theorem d_L_law_1434 : decode code 1434 = .ok (.aload_n 2, 1) := by decide +kernel
theorem d_L_law_1435 : decode code 1435 = .ok (.aload_n 0, 1) := by decide +kernel
theorem d_L_law_1436 : decode code 1436 = .ok (.iload 4, 2) := by decide +kernel
theorem d_L_law_1438 : decode code 1438 = .ok (.iconst 1, 1) := by decide +kernel
theorem d_L_law_1439 : decode code 1439 = .ok (.iadd, 1) := by decide +kernel
theorem d_L_law_1440 : decode code 1440 = .ok (.iaload, 1) := by decide +kernel
