theorem dL_law_1248 : decode cL_law 1248 = .ok (.iaload, 1) := by decide +kernel
theorem dL_law_1249 : decode cL_law 1249 = .ok (.aload_n 0, 1) := by decide +kernel
theorem dL_law_1250 : decode cL_law 1250 = .ok (.iload_n 3, 1) := by decide +kernel
theorem dL_law_1251 : decode cL_law 1251 = .ok (.iconst 3, 1) := by decide +kernel
theorem dL_law_1252 : decode cL_law 1252 = .ok (.iadd, 1) := by decide +kernel
theorem dL_law_1253 : decode cL_law 1253 = .ok (.iaload, 1) := by decide +kernel
theorem dL_law_1254 : decode cL_law 1254 = .ok (.invokevirtual 127, 3) := by decide +kernel
theorem dL_law_1257 : decode cL_law 1257 = .ok (.aload_n 2, 1) := by decide +kernel
theorem dL_law_1258 : decode cL_law 1258 = .ok (.aload_n 0, 1) := by decide +kernel
theorem dL_law_1259 : decode cL_law 1259 = .ok (.iload_n 3, 1) := by decide +kernel
theorem dL_law_1260 : decode cL_law 1260 = .ok (.iconst 1, 1) := by decide +kernel
theorem dL_law_1261 : decode cL_law 1261 = .ok (.iadd, 1) := by decide +kernel
theorem dL_law_1262 : decode cL_law 1262 = .ok (.iaload, 1) := by decide +kernel
theorem dL_law_1263 : decode cL_law 1263 = .ok (.aload_n 0, 1) := by decide +kernel
theorem dL_law_1264 : decode cL_law 1264 = .ok (.iload_n 3, 1) := by decide +kernel
theorem dL_law_1265 : decode cL_law 1265 = .ok (.iconst 2, 1) := by decide +kernel
theorem dL_law_1266 : decode cL_law 1266 = .ok (.iadd, 1) := by decide +kernel
theorem dL_law_1267 : decode cL_law 1267 = .ok (.iaload, 1) := by decide +kernel
theorem dL_law_1268 : decode cL_law 1268 = .ok (.aload_n 0, 1) := by decide +kernel
theorem dL_law_1269 : decode cL_law 1269 = .ok (.iload_n 3, 1) := by decide +kernel
theorem dL_law_1270 : decode cL_law 1270 = .ok (.iconst 3, 1) := by decide +kernel
theorem dL_law_1271 : decode cL_law 1271 = .ok (.iadd, 1) := by decide +kernel
theorem dL_law_1272 : decode cL_law 1272 = .ok (.iaload, 1) := by decide +kernel
theorem dL_law_1273 : decode cL_law 1273 = .ok (.invokevirtual 130, 3) := by decide +kernel
theorem dL_law_1276 : decode cL_law 1276 = .ok (.if_icmp .eq 777, 3) := by decide +kernel
theorem dL_law_1281 : decode cL_law 1281 = .ok (.aload_n 1, 1) := by decide +kernel
theorem dL_law_1282 : decode cL_law 1282 = .ok (.aload_n 0, 1) := by decide +kernel
theorem dL_law_1283 : decode cL_law 1283 = .ok (.iload_n 3, 1) := by decide +kernel
theorem dL_law_1284 : decode cL_law 1284 = .ok (.iconst 1, 1) := by decide +kernel
theorem dL_law_1285 : decode cL_law 1285 = .ok (.iadd, 1) := by decide +kernel
theorem dL_law_1286 : decode cL_law 1286 = .ok (.iaload, 1) := by decide +kernel
theorem dL_law_1287 : decode cL_law 1287 = .ok (.aload_n 0, 1) := by decide +kernel
theorem dL_law_1288 : decode cL_law 1288 = .ok (.iload_n 3, 1) := by decide +kernel
theorem dL_law_1289 : decode cL_law 1289 = .ok (.iconst 2, 1) := by decide +kernel
theorem dL_law_1290 : decode cL_law 1290 = .ok (.iadd, 1) := by decide +kernel
theorem dL_law_1291 : decode cL_law 1291 = .ok (.iaload, 1) := by decide +kernel
theorem dL_law_1292 : decode cL_law 1292 = .ok (.aload_n 0, 1) := by decide +kernel
theorem dL_law_1293 : decode cL_law 1293 = .ok (.iload_n 3, 1) := by decide +kernel
theorem dL_law_1294 : decode cL_law 1294 = .ok (.iconst 3, 1) := by decide +kernel
theorem dL_law_1295 : decode cL_law 1295 = .ok (.iadd, 1) := by decide +kernel
theorem dL_law_1296 : decode cL_law 1296 = .ok (.iaload, 1) := by decide +kernel
theorem dL_law_1297 : decode cL_law 1297 = .ok (.aload_n 0, 1) := by decide +kernel
theorem dL_law_1298 : decode cL_law 1298 = .ok (.iload_n 3, 1) := by decide +kernel
theorem dL_law_1299 : decode cL_law 1299 = .ok (.iconst 4, 1) := by decide +kernel
theorem dL_law_1300 : decode cL_law 1300 = .ok (.iadd, 1) := by decide +kernel
theorem dL_law_1301 : decode cL_law 1301 = .ok (.iaload, 1) := by decide +kernel
theorem dL_law_1302 : decode cL_law 1302 = .ok (.aload_n 0, 1) := by decide +kernel
theorem dL_law_1303 : decode cL_law 1303 = .ok (.iload_n 3, 1) := by decide +kernel
theorem dL_law_1304 : decode cL_law 1304 = .ok (.iconst 5, 1) := by decide +kernel
theorem dL_law_1305 : decode cL_law 1305 = .ok (.iadd, 1) := by decide +kernel
theorem dL_law_1306 : decode cL_law 1306 = .ok (.iaload, 1) := by decide +kernel
theorem dL_law_1307 : decode cL_law 1307 = .ok (.invokevirtual 131, 3) := by decide +kernel
theorem dL_law_1310 : decode cL_law 1310 = .ok (.aload_n 2, 1) := by decide +kernel
theorem dL_law_1311 : decode cL_law 1311 = .ok (.aload_n 0, 1) := by decide +kernel
theorem dL_law_1312 : decode cL_law 1312 = .ok (.iload_n 3, 1) := by decide +kernel
theorem dL_law_1313 : decode cL_law 1313 = .ok (.iconst 1, 1) := by decide +kernel
theorem dL_law_1314 : decode cL_law 1314 = .ok (.iadd, 1) := by decide +kernel
theorem dL_law_1315 : decode cL_law 1315 = .ok (.iaload, 1) := by decide +kernel
theorem dL_law_1316 : decode cL_law 1316 = .ok (.aload_n 0, 1) := by decide +kernel
theorem dL_law_1317 : decode cL_law 1317 = .ok (.iload_n 3, 1) := by decide +kernel
theorem dL_law_1318 : decode cL_law 1318 = .ok (.iconst 2, 1) := by decide +kernel
theorem dL_law_1319 : decode cL_law 1319 = .ok (.iadd, 1) := by decide +kernel
theorem dL_law_1320 : decode cL_law 1320 = .ok (.iaload, 1) := by decide +kernel
theorem dL_law_1321 : decode cL_law 1321 = .ok (.aload_n 0, 1) := by decide +kernel
theorem dL_law_1322 : decode cL_law 1322 = .ok (.iload_n 3, 1) := by decide +kernel
theorem dL_law_1323 : decode cL_law 1323 = .ok (.iconst 3, 1) := by decide +kernel
theorem dL_law_1324 : decode cL_law 1324 = .ok (.iadd, 1) := by decide +kernel
theorem dL_law_1325 : decode cL_law 1325 = .ok (.iaload, 1) := by decide +kernel
theorem dL_law_1326 : decode cL_law 1326 = .ok (.aload_n 0, 1) := by decide +kernel
theorem dL_law_1327 : decode cL_law 1327 = .ok (.iload_n 3, 1) := by decide +kernel
theorem dL_law_1328 : decode cL_law 1328 = .ok (.iconst 4, 1) := by decide +kernel
theorem dL_law_1329 : decode cL_law 1329 = .ok (.iadd, 1) := by decide +kernel
theorem dL_law_1330 : decode cL_law 1330 = .ok (.iaload, 1) := by decide +kernel
theorem dL_law_1331 : decode cL_law 1331 = .ok (.aload_n 0, 1) := by decide +kernel
theorem dL_law_1332 : decode cL_law 1332 = .ok (.iload_n 3, 1) := by decide +kernel
theorem dL_law_1333 : decode cL_law 1333 = .ok (.iconst 5, 1) := by decide +kernel
theorem dL_law_1334 : decode cL_law 1334 = .ok (.iadd, 1) := by decide +kernel
theorem dL_law_1335 : decode cL_law 1335 = .ok (.iaload, 1) := by decide +kernel
theorem dL_law_1336 : decode cL_law 1336 = .ok (.invokevirtual 134, 3) := by decide +kernel
theorem dL_law_1339 : decode cL_law 1339 = .ok (.if_icmp .eq 714, 3) := by decide +kernel
theorem dL_law_1344 : decode cL_law 1344 = .ok (.aload_n 1, 1) := by decide +kernel
theorem dL_law_1345 : decode cL_law 1345 = .ok (.aload_n 0, 1) := by decide +kernel
theorem dL_law_1346 : decode cL_law 1346 = .ok (.iload_n 3, 1) := by decide +kernel
theorem dL_law_1347 : decode cL_law 1347 = .ok (.iconst 1, 1) := by decide +kernel
theorem dL_law_1348 : decode cL_law 1348 = .ok (.iadd, 1) := by decide +kernel
theorem dL_law_1349 : decode cL_law 1349 = .ok (.iaload, 1) := by decide +kernel
theorem dL_law_1350 : decode cL_law 1350 = .ok (.aload_n 0, 1) := by decide +kernel
theorem dL_law_1351 : decode cL_law 1351 = .ok (.iload_n 3, 1) := by decide +kernel
theorem dL_law_1352 : decode cL_law 1352 = .ok (.iconst 2, 1) := by decide +kernel
theorem dL_law_1353 : decode cL_law 1353 = .ok (.iadd, 1) := by decide +kernel
theorem dL_law_1354 : decode cL_law 1354 = .ok (.iaload, 1) := by decide +kernel
theorem dL_law_1355 : decode cL_law 1355 = .ok (.aload_n 0, 1) := by decide +kernel
theorem dL_law_1356 : decode cL_law 1356 = .ok (.iload_n 3, 1) := by decide +kernel
theorem dL_law_1357 : decode cL_law 1357 = .ok (.iconst 3, 1) := by decide +kernel
theorem dL_law_1358 : decode cL_law 1358 = .ok (.iadd, 1) := by decide +kernel
theorem dL_law_1359 : decode cL_law 1359 = .ok (.iaload, 1) := by decide +kernel
theorem dL_law_1360 : decode cL_law 1360 = .ok (.invokevirtual 135, 3) := by decide +kernel
theorem dL_law_1363 : decode cL_law 1363 = .ok (.aload_n 2, 1) := by decide +kernel
theorem dL_law_1364 : decode cL_law 1364 = .ok (.aload_n 0, 1) := by decide +kernel
theorem dL_law_1365 : decode cL_law 1365 = .ok (.iload_n 3, 1) := by decide +kernel
theorem dL_law_1366 : decode cL_law 1366 = .ok (.iconst 1, 1) := by decide +kernel
theorem dL_law_1367 : decode cL_law 1367 = .ok (.iadd, 1) := by decide +kernel
theorem dL_law_1368 : decode cL_law 1368 = .ok (.iaload, 1) := by decide +kernel
theorem dL_law_1369 : decode cL_law 1369 = .ok (.aload_n 0, 1) := by decide +kernel
theorem dL_law_1370 : decode cL_law 1370 = .ok (.iload_n 3, 1) := by decide +kernel
theorem dL_law_1371 : decode cL_law 1371 = .ok (.iconst 2, 1) := by decide +kernel
theorem dL_law_1372 : decode cL_law 1372 = .ok (.iadd, 1) := by decide +kernel
theorem dL_law_1373 : decode cL_law 1373 = .ok (.iaload, 1) := by decide +kernel
theorem dL_law_1374 : decode cL_law 1374 = .ok (.aload_n 0, 1) := by decide +kernel
theorem dL_law_1375 : decode cL_law 1375 = .ok (.iload_n 3, 1) := by decide +kernel
theorem dL_law_1376 : decode cL_law 1376 = .ok (.iconst 3, 1) := by decide +kernel
theorem dL_law_1377 : decode cL_law 1377 = .ok (.iadd, 1) := by decide +kernel
theorem dL_law_1378 : decode cL_law 1378 = .ok (.iaload, 1) := by decide +kernel
theorem dL_law_1379 : decode cL_law 1379 = .ok (.invokevirtual 138, 3) := by decide +kernel
theorem dL_law_1382 : decode cL_law 1382 = .ok (.if_icmp .eq 671, 3) := by decide +kernel
theorem dL_law_1387 : decode cL_law 1387 = .ok (.aload_n 1, 1) := by decide +kernel
theorem dL_law_1388 : decode cL_law 1388 = .ok (.aload_n 0, 1) := by decide +kernel
theorem dL_law_1389 : decode cL_law 1389 = .ok (.iload_n 3, 1) := by decide +kernel
theorem dL_law_1390 : decode cL_law 1390 = .ok (.iconst 1, 1) := by decide +kernel
theorem dL_law_1391 : decode cL_law 1391 = .ok (.iadd, 1) := by decide +kernel
theorem dL_law_1392 : decode cL_law 1392 = .ok (.iaload, 1) := by decide +kernel
theorem dL_law_1393 : decode cL_law 1393 = .ok (.invokevirtual 139, 3) := by decide +kernel
theorem dL_law_1396 : decode cL_law 1396 = .ok (.aload_n 2, 1) := by decide +kernel
theorem dL_law_1397 : decode cL_law 1397 = .ok (.aload_n 0, 1) := by decide +kernel
theorem dL_law_1398 : decode cL_law 1398 = .ok (.iload_n 3, 1) := by decide +kernel
theorem dL_law_1399 : decode cL_law 1399 = .ok (.iconst 1, 1) := by decide +kernel
theorem dL_law_1400 : decode cL_law 1400 = .ok (.iadd, 1) := by decide +kernel
theorem dL_law_1401 : decode cL_law 1401 = .ok (.iaload, 1) := by decide +kernel
theorem dL_law_1402 : decode cL_law 1402 = .ok (.invokevirtual 142, 3) := by decide +kernel
theorem dL_law_1405 : decode cL_law 1405 = .ok (.if_icmp .eq 648, 3) := by decide +kernel
theorem dL_law_1410 : decode cL_law 1410 = .ok (.aload_n 1, 1) := by decide +kernel
theorem dL_law_1411 : decode cL_law 1411 = .ok (.aload_n 0, 1) := by decide +kernel
theorem dL_law_1412 : decode cL_law 1412 = .ok (.iload_n 3, 1) := by decide +kernel
theorem dL_law_1413 : decode cL_law 1413 = .ok (.iconst 1, 1) := by decide +kernel
theorem dL_law_1414 : decode cL_law 1414 = .ok (.iadd, 1) := by decide +kernel
theorem dL_law_1415 : decode cL_law 1415 = .ok (.iaload, 1) := by decide +kernel
theorem dL_law_1416 : decode cL_law 1416 = .ok (.invokevirtual 143, 3) := by decide +kernel
theorem dL_law_1419 : decode cL_law 1419 = .ok (.aload_n 2, 1) := by decide +kernel
theorem dL_law_1420 : decode cL_law 1420 = .ok (.aload_n 0, 1) := by decide +kernel
theorem dL_law_1421 : decode cL_law 1421 = .ok (.iload_n 3, 1) := by decide +kernel
theorem dL_law_1422 : decode cL_law 1422 = .ok (.iconst 1, 1) := by decide +kernel
theorem dL_law_1423 : decode cL_law 1423 = .ok (.iadd, 1) := by decide +kernel
theorem dL_law_1424 : decode cL_law 1424 = .ok (.iaload, 1) := by decide +kernel
theorem dL_law_1425 : decode cL_law 1425 = .ok (.invokevirtual 146, 3) := by decide +kernel
theorem dL_law_1428 : decode cL_law 1428 = .ok (.if_icmp .eq 625, 3) := by decide +kernel
theorem dL_law_1433 : decode cL_law 1433 = .ok (.aload_n 1, 1) := by decide +kernel
theorem dL_law_1434 : decode cL_law 1434 = .ok (.aload_n 0, 1) := by decide +kernel
theorem dL_law_1435 : decode cL_law 1435 = .ok (.iload_n 3, 1) := by decide +kernel
theorem dL_law_1436 : decode cL_law 1436 = .ok (.iconst 1, 1) := by decide +kernel
theorem dL_law_1437 : decode cL_law 1437 = .ok (.iadd, 1) := by decide +kernel
theorem dL_law_1438 : decode cL_law 1438 = .ok (.iaload, 1) := by decide +kernel
theorem dL_law_1439 : decode cL_law 1439 = .ok (.aload_n 0, 1) := by decide +kernel
theorem dL_law_1440 : decode cL_law 1440 = .ok (.iload_n 3, 1) := by decide +kernel
theorem dL_law_1441 : decode cL_law 1441 = .ok (.iconst 2, 1) := by decide +kernel
theorem dL_law_1442 : decode cL_law 1442 = .ok (.iadd, 1) := by decide +kernel
theorem dL_law_1443 : decode cL_law 1443 = .ok (.iaload, 1) := by decide +kernel
theorem dL_law_1444 : decode cL_law 1444 = .ok (.invokevirtual 147, 3) := by decide +kernel
theorem dL_law_1447 : decode cL_law 1447 = .ok (.aload_n 2, 1) := by decide +kernel
theorem dL_law_1448 : decode cL_law 1448 = .ok (.aload_n 0, 1) := by decide +kernel
theorem dL_law_1449 : decode cL_law 1449 = .ok (.iload_n 3, 1) := by decide +kernel
theorem dL_law_1450 : decode cL_law 1450 = .ok (.iconst 1, 1) := by decide +kernel
theorem dL_law_1451 : decode cL_law 1451 = .ok (.iadd, 1) := by decide +kernel
theorem dL_law_1452 : decode cL_law 1452 = .ok (.iaload, 1) := by decide +kernel
theorem dL_law_1453 : decode cL_law 1453 = .ok (.aload_n 0, 1) := by decide +kernel
theorem dL_law_1454 : decode cL_law 1454 = .ok (.iload_n 3, 1) := by decide +kernel
theorem dL_law_1455 : decode cL_law 1455 = .ok (.iconst 2, 1) := by decide +kernel
theorem dL_law_1456 : decode cL_law 1456 = .ok (.iadd, 1) := by decide +kernel
theorem dL_law_1457 : decode cL_law 1457 = .ok (.iaload, 1) := by decide +kernel
theorem dL_law_1458 : decode cL_law 1458 = .ok (.invokevirtual 150, 3) := by decide +kernel
theorem dL_law_1461 : decode cL_law 1461 = .ok (.if_icmp .eq 592, 3) := by decide +kernel
theorem dL_law_1466 : decode cL_law 1466 = .ok (.aload_n 1, 1) := by decide +kernel
theorem dL_law_1467 : decode cL_law 1467 = .ok (.aload_n 0, 1) := by decide +kernel
theorem dL_law_1468 : decode cL_law 1468 = .ok (.iload_n 3, 1) := by decide +kernel
theorem dL_law_1469 : decode cL_law 1469 = .ok (.iconst 1, 1) := by decide +kernel
theorem dL_law_1470 : decode cL_law 1470 = .ok (.iadd, 1) := by decide +kernel
theorem dL_law_1471 : decode cL_law 1471 = .ok (.iaload, 1) := by decide +kernel
theorem dL_law_1472 : decode cL_law 1472 = .ok (.aload_n 0, 1) := by decide +kernel
theorem dL_law_1473 : decode cL_law 1473 = .ok (.iload_n 3, 1) := by decide +kernel
theorem dL_law_1474 : decode cL_law 1474 = .ok (.iconst 2, 1) := by decide +kernel
theorem dL_law_1475 : decode cL_law 1475 = .ok (.iadd, 1) := by decide +kernel
theorem dL_law_1476 : decode cL_law 1476 = .ok (.iaload, 1) := by decide +kernel
theorem dL_law_1477 : decode cL_law 1477 = .ok (.invokevirtual 151, 3) := by decide +kernel
theorem dL_law_1480 : decode cL_law 1480 = .ok (.aload_n 2, 1) := by decide +kernel
theorem dL_law_1481 : decode cL_law 1481 = .ok (.aload_n 0, 1) := by decide +kernel
theorem dL_law_1482 : decode cL_law 1482 = .ok (.iload_n 3, 1) := by decide +kernel
theorem dL_law_1483 : decode cL_law 1483 = .ok (.iconst 1, 1) := by decide +kernel
theorem dL_law_1484 : decode cL_law 1484 = .ok (.iadd, 1) := by decide +kernel
theorem dL_law_1485 : decode cL_law 1485 = .ok (.iaload, 1) := by decide +kernel
theorem dL_law_1486 : decode cL_law 1486 = .ok (.aload_n 0, 1) := by decide +kernel
theorem dL_law_1487 : decode cL_law 1487 = .ok (.iload_n 3, 1) := by decide +kernel
theorem dL_law_1488 : decode cL_law 1488 = .ok (.iconst 2, 1) := by decide +kernel
theorem dL_law_1489 : decode cL_law 1489 = .ok (.iadd, 1) := by decide +kernel
theorem dL_law_1490 : decode cL_law 1490 = .ok (.iaload, 1) := by decide +kernel
theorem dL_law_1491 : decode cL_law 1491 = .ok (.invokevirtual 154, 3) := by decide +kernel
theorem dL_law_1494 : decode cL_law 1494 = .ok (.if_icmp .eq 559, 3) := by decide +kernel
theorem dL_law_1499 : decode cL_law 1499 = .ok (.aload_n 1, 1) := by decide +kernel
theorem dL_law_1500 : decode cL_law 1500 = .ok (.aload_n 0, 1) := by decide +kernel
theorem dL_law_1501 : decode cL_law 1501 = .ok (.iload_n 3, 1) := by decide +kernel
theorem dL_law_1502 : decode cL_law 1502 = .ok (.iconst 1, 1) := by decide +kernel
theorem dL_law_1503 : decode cL_law 1503 = .ok (.iadd, 1) := by decide +kernel
theorem dL_law_1504 : decode cL_law 1504 = .ok (.iaload, 1) := by decide +kernel
theorem dL_law_1505 : decode cL_law 1505 = .ok (.aload_n 0, 1) := by decide +kernel
theorem dL_law_1506 : decode cL_law 1506 = .ok (.iload_n 3, 1) := by decide +kernel
theorem dL_law_1507 : decode cL_law 1507 = .ok (.iconst 2, 1) := by decide +kernel
theorem dL_law_1508 : decode cL_law 1508 = .ok (.iadd, 1) := by decide +kernel
theorem dL_law_1509 : decode cL_law 1509 = .ok (.iaload, 1) := by decide +kernel
theorem dL_law_1510 : decode cL_law 1510 = .ok (.aload_n 0, 1) := by decide +kernel
theorem dL_law_1511 : decode cL_law 1511 = .ok (.iload_n 3, 1) := by decide +kernel
theorem dL_law_1512 : decode cL_law 1512 = .ok (.iconst 3, 1) := by decide +kernel
theorem dL_law_1513 : decode cL_law 1513 = .ok (.iadd, 1) := by decide +kernel
theorem dL_law_1514 : decode cL_law 1514 = .ok (.iaload, 1) := by decide +kernel
theorem dL_law_1515 : decode cL_law 1515 = .ok (.invokevirtual 155, 3) := by decide +kernel
theorem dL_law_1518 : decode cL_law 1518 = .ok (.aload_n 2, 1) := by decide +kernel
theorem dL_law_1519 : decode cL_law 1519 = .ok (.aload_n 0, 1) := by decide +kernel
theorem dL_law_1520 : decode cL_law 1520 = .ok (.iload_n 3, 1) := by decide +kernel
theorem dL_law_1521 : decode cL_law 1521 = .ok (.iconst 1, 1) := by decide +kernel
theorem dL_law_1522 : decode cL_law 1522 = .ok (.iadd, 1) := by decide +kernel
theorem dL_law_1523 : decode cL_law 1523 = .ok (.iaload, 1) := by decide +kernel
theorem dL_law_1524 : decode cL_law 1524 = .ok (.aload_n 0, 1) := by decide +kernel
theorem dL_law_1525 : decode cL_law 1525 = .ok (.iload_n 3, 1) := by decide +kernel
theorem dL_law_1526 : decode cL_law 1526 = .ok (.iconst 2, 1) := by decide +kernel
theorem dL_law_1527 : decode cL_law 1527 = .ok (.iadd, 1) := by decide +kernel
theorem dL_law_1528 : decode cL_law 1528 = .ok (.iaload, 1) := by decide +kernel
theorem dL_law_1529 : decode cL_law 1529 = .ok (.aload_n 0, 1) := by decide +kernel
theorem dL_law_1530 : decode cL_law 1530 = .ok (.iload_n 3, 1) := by decide +kernel
theorem dL_law_1531 : decode cL_law 1531 = .ok (.iconst 3, 1) := by decide +kernel
theorem dL_law_1532 : decode cL_law 1532 = .ok (.iadd, 1) := by decide +kernel
theorem dL_law_1533 : decode cL_law 1533 = .ok (.iaload, 1) := by decide +kernel
theorem dL_law_1534 : decode cL_law 1534 = .ok (.invokevirtual 158, 3) := by decide +kernel
theorem dL_law_1537 : decode cL_law 1537 = .ok (.if_icmp .eq 516, 3) := by decide +kernel
theorem dL_law_1542 : decode cL_law 1542 = .ok (.aload_n 1, 1) := by decide +kernel
theorem dL_law_1543 : decode cL_law 1543 = .ok (.aload_n 0, 1) := by decide +kernel
theorem dL_law_1544 : decode cL_law 1544 = .ok (.iload_n 3, 1) := by decide +kernel
theorem dL_law_1545 : decode cL_law 1545 = .ok (.iconst 1, 1) := by decide +kernel
theorem dL_law_1546 : decode cL_law 1546 = .ok (.iadd, 1) := by decide +kernel
theorem dL_law_1547 : decode cL_law 1547 = .ok (.iaload, 1) := by decide +kernel
theorem dL_law_1548 : decode cL_law 1548 = .ok (.aload_n 0, 1) := by decide +kernel
theorem dL_law_1549 : decode cL_law 1549 = .ok (.iload_n 3, 1) := by decide +kernel
theorem dL_law_1550 : decode cL_law 1550 = .ok (.iconst 2, 1) := by decide +kernel
theorem dL_law_1551 : decode cL_law 1551 = .ok (.iadd, 1) := by decide +kernel
theorem dL_law_1552 : decode cL_law 1552 = .ok (.iaload, 1) := by decide +kernel
theorem dL_law_1553 : decode cL_law 1553 = .ok (.invokevirtual 159, 3) := by decide +kernel
theorem dL_law_1556 : decode cL_law 1556 = .ok (.aload_n 2, 1) := by decide +kernel
theorem dL_law_1557 : decode cL_law 1557 = .ok (.aload_n 0, 1) := by decide +kernel
theorem dL_law_1558 : decode cL_law 1558 = .ok (.iload_n 3, 1) := by decide +kernel
theorem dL_law_1559 : decode cL_law 1559 = .ok (.iconst 1, 1) := by decide +kernel
theorem dL_law_1560 : decode cL_law 1560 = .ok (.iadd, 1) := by decide +kernel
theorem dL_law_1561 : decode cL_law 1561 = .ok (.iaload, 1) := by decide +kernel
theorem dL_law_1562 : decode cL_law 1562 = .ok (.aload_n 0, 1) := by decide +kernel
theorem dL_law_1563 : decode cL_law 1563 = .ok (.iload_n 3, 1) := by decide +kernel
theorem dL_law_1564 : decode cL_law 1564 = .ok (.iconst 2, 1) := by decide +kernel
theorem dL_law_1565 : decode cL_law 1565 = .ok (.iadd, 1) := by decide +kernel
theorem dL_law_1566 : decode cL_law 1566 = .ok (.iaload, 1) := by decide +kernel
theorem dL_law_1567 : decode cL_law 1567 = .ok (.invokevirtual 162, 3) := by decide +kernel
theorem dL_law_1570 : decode cL_law 1570 = .ok (.if_icmp .eq 483, 3) := by decide +kernel
theorem dL_law_1575 : decode cL_law 1575 = .ok (.aload_n 1, 1) := by decide +kernel
theorem dL_law_1576 : decode cL_law 1576 = .ok (.aload_n 0, 1) := by decide +kernel
theorem dL_law_1577 : decode cL_law 1577 = .ok (.iload_n 3, 1) := by decide +kernel
theorem dL_law_1578 : decode cL_law 1578 = .ok (.iconst 1, 1) := by decide +kernel
theorem dL_law_1579 : decode cL_law 1579 = .ok (.iadd, 1) := by decide +kernel
theorem dL_law_1580 : decode cL_law 1580 = .ok (.iaload, 1) := by decide +kernel
theorem dL_law_1581 : decode cL_law 1581 = .ok (.aload_n 0, 1) := by decide +kernel
theorem dL_law_1582 : decode cL_law 1582 = .ok (.iload_n 3, 1) := by decide +kernel
theorem dL_law_1583 : decode cL_law 1583 = .ok (.iconst 2, 1) := by decide +kernel
theorem dL_law_1584 : decode cL_law 1584 = .ok (.iadd, 1) := by decide +kernel
theorem dL_law_1585 : decode cL_law 1585 = .ok (.iaload, 1) := by decide +kernel
theorem dL_law_1586 : decode cL_law 1586 = .ok (.aload_n 0, 1) := by decide +kernel
theorem dL_law_1587 : decode cL_law 1587 = .ok (.iload_n 3, 1) := by decide +kernel
theorem dL_law_1588 : decode cL_law 1588 = .ok (.iconst 3, 1) := by decide +kernel
theorem dL_law_1589 : decode cL_law 1589 = .ok (.iadd, 1) := by decide +kernel
theorem dL_law_1590 : decode cL_law 1590 = .ok (.iaload, 1) := by decide +kernel
theorem dL_law_1591 : decode cL_law 1591 = .ok (.invokevirtual 163, 3) := by decide +kernel
theorem dL_law_1594 : decode cL_law 1594 = .ok (.aload_n 2, 1) := by decide +kernel
theorem dL_law_1595 : decode cL_law 1595 = .ok (.aload_n 0, 1) := by decide +kernel
theorem dL_law_1596 : decode cL_law 1596 = .ok (.iload_n 3, 1) := by decide +kernel
theorem dL_law_1597 : decode cL_law 1597 = .ok (.iconst 1, 1) := by decide +kernel
theorem dL_law_1598 : decode cL_law 1598 = .ok (.iadd, 1) := by decide +kernel
theorem dL_law_1599 : decode cL_law 1599 = .ok (.iaload, 1) := by decide +kernel
theorem dL_law_1600 : decode cL_law 1600 = .ok (.aload_n 0, 1) := by decide +kernel
theorem dL_law_1601 : decode cL_law 1601 = .ok (.iload_n 3, 1) := by decide +kernel
theorem dL_law_1602 : decode cL_law 1602 = .ok (.iconst 2, 1) := by decide +kernel
theorem dL_law_1603 : decode cL_law 1603 = .ok (.iadd, 1) := by decide +kernel
theorem dL_law_1604 : decode cL_law 1604 = .ok (.iaload, 1) := by decide +kernel
theorem dL_law_1605 : decode cL_law 1605 = .ok (.aload_n 0, 1) := by decide +kernel
theorem dL_law_1606 : decode cL_law 1606 = .ok (.iload_n 3, 1) := by decide +kernel
theorem dL_law_1607 : decode cL_law 1607 = .ok (.iconst 3, 1) := by decide +kernel
theorem dL_law_1608 : decode cL_law 1608 = .ok (.iadd, 1) := by decide +kernel
theorem dL_law_1609 : decode cL_law 1609 = .ok (.iaload, 1) := by decide +kernel
theorem dL_law_1610 : decode cL_law 1610 = .ok (.invokevirtual 166, 3) := by decide +kernel
theorem dL_law_1613 : decode cL_law 1613 = .ok (.if_icmp .eq 440, 3) := by decide +kernel
theorem dL_law_1618 : decode cL_law 1618 = .ok (.aload_n 1, 1) := by decide +kernel
theorem dL_law_1619 : decode cL_law 1619 = .ok (.aload_n 0, 1) := by decide +kernel
theorem dL_law_1620 : decode cL_law 1620 = .ok (.iload_n 3, 1) := by decide +kernel
theorem dL_law_1621 : decode cL_law 1621 = .ok (.iconst 1, 1) := by decide +kernel
theorem dL_law_1622 : decode cL_law 1622 = .ok (.iadd, 1) := by decide +kernel
theorem dL_law_1623 : decode cL_law 1623 = .ok (.iaload, 1) := by decide +kernel
theorem dL_law_1624 : decode cL_law 1624 = .ok (.invokevirtual 167, 3) := by decide +kernel
theorem dL_law_1627 : decode cL_law 1627 = .ok (.aload_n 2, 1) := by decide +kernel
theorem dL_law_1628 : decode cL_law 1628 = .ok (.aload_n 0, 1) := by decide +kernel
theorem dL_law_1629 : decode cL_law 1629 = .ok (.iload_n 3, 1) := by decide +kernel
theorem dL_law_1630 : decode cL_law 1630 = .ok (.iconst 1, 1) := by decide +kernel
theorem dL_law_1631 : decode cL_law 1631 = .ok (.iadd, 1) := by decide +kernel
theorem dL_law_1632 : decode cL_law 1632 = .ok (.iaload, 1) := by decide +kernel
theorem dL_law_1633 : decode cL_law 1633 = .ok (.invokevirtual 170, 3) := by decide +kernel
theorem dL_law_1636 : decode cL_law 1636 = .ok (.if_icmp .eq 417, 3) := by decide +kernel
theorem dL_law_1641 : decode cL_law 1641 = .ok (.aload_n 1, 1) := by decide +kernel
theorem dL_law_1642 : decode cL_law 1642 = .ok (.aload_n 0, 1) := by decide +kernel
theorem dL_law_1643 : decode cL_law 1643 = .ok (.iload_n 3, 1) := by decide +kernel
theorem dL_law_1644 : decode cL_law 1644 = .ok (.iconst 1, 1) := by decide +kernel
theorem dL_law_1645 : decode cL_law 1645 = .ok (.iadd, 1) := by decide +kernel
theorem dL_law_1646 : decode cL_law 1646 = .ok (.iaload, 1) := by decide +kernel
theorem dL_law_1647 : decode cL_law 1647 = .ok (.aload_n 0, 1) := by decide +kernel
theorem dL_law_1648 : decode cL_law 1648 = .ok (.iload_n 3, 1) := by decide +kernel
theorem dL_law_1649 : decode cL_law 1649 = .ok (.iconst 2, 1) := by decide +kernel
theorem dL_law_1650 : decode cL_law 1650 = .ok (.iadd, 1) := by decide +kernel
theorem dL_law_1651 : decode cL_law 1651 = .ok (.iaload, 1) := by decide +kernel
theorem dL_law_1652 : decode cL_law 1652 = .ok (.invokevirtual 171, 3) := by decide +kernel
theorem dL_law_1655 : decode cL_law 1655 = .ok (.aload_n 2, 1) := by decide +kernel
theorem dL_law_1656 : decode cL_law 1656 = .ok (.aload_n 0, 1) := by decide +kernel
theorem dL_law_1657 : decode cL_law 1657 = .ok (.iload_n 3, 1) := by decide +kernel
theorem dL_law_1658 : decode cL_law 1658 = .ok (.iconst 1, 1) := by decide +kernel
theorem dL_law_1659 : decode cL_law 1659 = .ok (.iadd, 1) := by decide +kernel
theorem dL_law_1660 : decode cL_law 1660 = .ok (.iaload, 1) := by decide +kernel
theorem dL_law_1661 : decode cL_law 1661 = .ok (.aload_n 0, 1) := by decide +kernel
theorem dL_law_1662 : decode cL_law 1662 = .ok (.iload_n 3, 1) := by decide +kernel
theorem dL_law_1663 : decode cL_law 1663 = .ok (.iconst 2, 1) := by decide +kernel
theorem dL_law_1664 : decode cL_law 1664 = .ok (.iadd, 1) := by decide +kernel
theorem dL_law_1665 : decode cL_law 1665 = .ok (.iaload, 1) := by decide +kernel
theorem dL_law_1666 : decode cL_law 1666 = .ok (.invokevirtual 174, 3) := by decide +kernel
theorem dL_law_1669 : decode cL_law 1669 = .ok (.if_icmp .eq 384, 3) := by decide +kernel
theorem dL_law_1674 : decode cL_law 1674 = .ok (.aload_n 1, 1) := by decide +kernel
theorem dL_law_1675 : decode cL_law 1675 = .ok (.aload_n 0, 1) := by decide +kernel
theorem dL_law_1676 : decode cL_law 1676 = .ok (.iload_n 3, 1) := by decide +kernel
theorem dL_law_1677 : decode cL_law 1677 = .ok (.iconst 1, 1) := by decide +kernel
theorem dL_law_1678 : decode cL_law 1678 = .ok (.iadd, 1) := by decide +kernel
theorem dL_law_1679 : decode cL_law 1679 = .ok (.iaload, 1) := by decide +kernel
theorem dL_law_1680 : decode cL_law 1680 = .ok (.aload_n 0, 1) := by decide +kernel
theorem dL_law_1681 : decode cL_law 1681 = .ok (.iload_n 3, 1) := by decide +kernel
theorem dL_law_1682 : decode cL_law 1682 = .ok (.iconst 2, 1) := by decide +kernel
theorem dL_law_1683 : decode cL_law 1683 = .ok (.iadd, 1) := by decide +kernel
theorem dL_law_1684 : decode cL_law 1684 = .ok (.iaload, 1) := by decide +kernel
theorem dL_law_1685 : decode cL_law 1685 = .ok (.invokevirtual 175, 3) := by decide +kernel
theorem dL_law_1688 : decode cL_law 1688 = .ok (.aload_n 2, 1) := by decide +kernel
theorem dL_law_1689 : decode cL_law 1689 = .ok (.aload_n 0, 1) := by decide +kernel
theorem dL_law_1690 : decode cL_law 1690 = .ok (.iload_n 3, 1) := by decide +kernel
theorem dL_law_1691 : decode cL_law 1691 = .ok (.iconst 1, 1) := by decide +kernel
theorem dL_law_1692 : decode cL_law 1692 = .ok (.iadd, 1) := by decide +kernel
theorem dL_law_1693 : decode cL_law 1693 = .ok (.iaload, 1) := by decide +kernel
theorem dL_law_1694 : decode cL_law 1694 = .ok (.aload_n 0, 1) := by decide +kernel
theorem dL_law_1695 : decode cL_law 1695 = .ok (.iload_n 3, 1) := by decide +kernel
theorem dL_law_1696 : decode cL_law 1696 = .ok (.iconst 2, 1) := by decide +kernel
theorem dL_law_1697 : decode cL_law 1697 = .ok (.iadd, 1) := by decide +kernel
theorem dL_law_1698 : decode cL_law 1698 = .ok (.iaload, 1) := by decide +kernel
theorem dL_law_1699 : decode cL_law 1699 = .ok (.invokevirtual 178, 3) := by decide +kernel
theorem dL_law_1702 : decode cL_law 1702 = .ok (.if_icmp .eq 351, 3) := by decide +kernel
theorem dL_law_1707 : decode cL_law 1707 = .ok (.aload_n 1, 1) := by decide +kernel
theorem dL_law_1708 : decode cL_law 1708 = .ok (.aload_n 0, 1) := by decide +kernel
theorem dL_law_1709 : decode cL_law 1709 = .ok (.iload_n 3, 1) := by decide +kernel
theorem dL_law_1710 : decode cL_law 1710 = .ok (.iconst 1, 1) := by decide +kernel
theorem dL_law_1711 : decode cL_law 1711 = .ok (.iadd, 1) := by decide +kernel
theorem dL_law_1712 : decode cL_law 1712 = .ok (.iaload, 1) := by decide +kernel
theorem dL_law_1713 : decode cL_law 1713 = .ok (.aload_n 0, 1) := by decide +kernel
theorem dL_law_1714 : decode cL_law 1714 = .ok (.iload_n 3, 1) := by decide +kernel
theorem dL_law_1715 : decode cL_law 1715 = .ok (.iconst 2, 1) := by decide +kernel
theorem dL_law_1716 : decode cL_law 1716 = .ok (.iadd, 1) := by decide +kernel
theorem dL_law_1717 : decode cL_law 1717 = .ok (.iaload, 1) := by decide +kernel
theorem dL_law_1718 : decode cL_law 1718 = .ok (.invokevirtual 179, 3) := by decide +kernel
theorem dL_law_1721 : decode cL_law 1721 = .ok (.aload_n 2, 1) := by decide +kernel
theorem dL_law_1722 : decode cL_law 1722 = .ok (.aload_n 0, 1) := by decide +kernel
theorem dL_law_1723 : decode cL_law 1723 = .ok (.iload_n 3, 1) := by decide +kernel
theorem dL_law_1724 : decode cL_law 1724 = .ok (.iconst 1, 1) := by decide +kernel
theorem dL_law_1725 : decode cL_law 1725 = .ok (.iadd, 1) := by decide +kernel
theorem dL_law_1726 : decode cL_law 1726 = .ok (.iaload, 1) := by decide +kernel
theorem dL_law_1727 : decode cL_law 1727 = .ok (.aload_n 0, 1) := by decide +kernel
theorem dL_law_1728 : decode cL_law 1728 = .ok (.iload_n 3, 1) := by decide +kernel
theorem dL_law_1729 : decode cL_law 1729 = .ok (.iconst 2, 1) := by decide +kernel
theorem dL_law_1730 : decode cL_law 1730 = .ok (.iadd, 1) := by decide +kernel
theorem dL_law_1731 : decode cL_law 1731 = .ok (.iaload, 1) := by decide +kernel
theorem dL_law_1732 : decode cL_law 1732 = .ok (.invokevirtual 182, 3) := by decide +kernel
theorem dL_law_1735 : decode cL_law 1735 = .ok (.if_icmp .eq 318, 3) := by decide +kernel
theorem dL_law_1740 : decode cL_law 1740 = .ok (.aload_n 1, 1) := by decide +kernel
theorem dL_law_1741 : decode cL_law 1741 = .ok (.aload_n 0, 1) := by decide +kernel
theorem dL_law_1742 : decode cL_law 1742 = .ok (.iload_n 3, 1) := by decide +kernel
theorem dL_law_1743 : decode cL_law 1743 = .ok (.iconst 1, 1) := by decide +kernel
theorem dL_law_1744 : decode cL_law 1744 = .ok (.iadd, 1) := by decide +kernel
theorem dL_law_1745 : decode cL_law 1745 = .ok (.iaload, 1) := by decide +kernel
theorem dL_law_1746 : decode cL_law 1746 = .ok (.aload_n 0, 1) := by decide +kernel
theorem dL_law_1747 : decode cL_law 1747 = .ok (.iload_n 3, 1) := by decide +kernel
theorem dL_law_1748 : decode cL_law 1748 = .ok (.iconst 2, 1) := by decide +kernel
theorem dL_law_1749 : decode cL_law 1749 = .ok (.iadd, 1) := by decide +kernel
theorem dL_law_1750 : decode cL_law 1750 = .ok (.iaload, 1) := by decide +kernel
theorem dL_law_1751 : decode cL_law 1751 = .ok (.invokevirtual 183, 3) := by decide +kernel
theorem dL_law_1754 : decode cL_law 1754 = .ok (.aload_n 2, 1) := by decide +kernel
theorem dL_law_1755 : decode cL_law 1755 = .ok (.aload_n 0, 1) := by decide +kernel
theorem dL_law_1756 : decode cL_law 1756 = .ok (.iload_n 3, 1) := by decide +kernel
theorem dL_law_1757 : decode cL_law 1757 = .ok (.iconst 1, 1) := by decide +kernel
theorem dL_law_1758 : decode cL_law 1758 = .ok (.iadd, 1) := by decide +kernel
theorem dL_law_1759 : decode cL_law 1759 = .ok (.iaload, 1) := by decide +kernel
theorem dL_law_1760 : decode cL_law 1760 = .ok (.aload_n 0, 1) := by decide +kernel
theorem dL_law_1761 : decode cL_law 1761 = .ok (.iload_n 3, 1) := by decide +kernel
