theorem d_Law_law_1330 : decode m_Law_law.2.1 1330 = .ok (.iconst 2, 1) := by decide +kernel
theorem d_Law_law_1331 : decode m_Law_law.2.1 1331 = .ok (.iadd, 1) := by decide +kernel
theorem d_Law_law_1332 : decode m_Law_law.2.1 1332 = .ok (.iaload, 1) := by decide +kernel
theorem d_Law_law_1333 : decode m_Law_law.2.1 1333 = .ok (.aload_n 0, 1) := by decide +kernel
theorem d_Law_law_1334 : decode m_Law_law.2.1 1334 = .ok (.iload 4, 2) := by decide +kernel
theorem d_Law_law_1336 : decode m_Law_law.2.1 1336 = .ok (.iconst 3, 1) := by decide +kernel
theorem d_Law_law_1337 : decode m_Law_law.2.1 1337 = .ok (.iadd, 1) := by decide +kernel
theorem d_Law_law_1338 : decode m_Law_law.2.1 1338 = .ok (.iaload, 1) := by decide +kernel
theorem d_Law_law_1339 : decode m_Law_law.2.1 1339 = .ok (.aload_n 0, 1) := by decide +kernel
theorem d_Law_law_1340 : decode m_Law_law.2.1 1340 = .ok (.iload 4, 2) := by decide +kernel
theorem d_Law_law_1342 : decode m_Law_law.2.1 1342 = .ok (.iconst 4, 1) := by decide +kernel
theorem d_Law_law_1343 : decode m_Law_law.2.1 1343 = .ok (.iadd, 1) := by decide +kernel
theorem d_Law_law_1344 : decode m_Law_law.2.1 1344 = .ok (.iaload, 1) := by decide +kernel
theorem d_Law_law_1345 : decode m_Law_law.2.1 1345 = .ok (.invokevirtual 134, 3) := by decide +kernel
theorem d_Law_law_1348 : decode m_Law_law.2.1 1348 = .ok (.aload_n 2, 1) := by decide +kernel
theorem d_Law_law_1349 : decode m_Law_law.2.1 1349 = .ok (.aload_n 0, 1) := by decide +kernel
theorem d_Law_law_1350 : decode m_Law_law.2.1 1350 = .ok (.iload 4, 2) := by decide +kernel
theorem d_Law_law_1352 : decode m_Law_law.2.1 1352 = .ok (.iconst 1, 1) := by decide +kernel
theorem d_Law_law_1353 : decode m_Law_law.2.1 1353 = .ok (.iadd, 1) := by decide +kernel
theorem d_Law_law_1354 : decode m_Law_law.2.1 1354 = .ok (.iaload, 1) := by decide +kernel
theorem d_Law_law_1355 : decode m_Law_law.2.1 1355 = .ok (.aload_n 0, 1) := by decide +kernel
theorem d_Law_law_1356 : decode m_Law_law.2.1 1356 = .ok (.iload 4, 2) := by decide +kernel
theorem d_Law_law_1358 : decode m_Law_law.2.1 1358 = .ok (.iconst 2, 1) := by decide +kernel
theorem d_Law_law_1359 : decode m_Law_law.2.1 1359 = .ok (.iadd, 1) := by decide +kernel
theorem d_Law_law_1360 : decode m_Law_law.2.1 1360 = .ok (.iaload, 1) := by decide +kernel
theorem d_Law_law_1361 : decode m_Law_law.2.1 1361 = .ok (.aload_n 0, 1) := by decide +kernel
theorem d_Law_law_1362 : decode m_Law_law.2.1 1362 = .ok (.iload 4, 2) := by decide +kernel
theorem d_Law_law_1364 : decode m_Law_law.2.1 1364 = .ok (.iconst 3, 1) := by decide +kernel
theorem d_Law_law_1365 : decode m_Law_law.2.1 1365 = .ok (.iadd, 1) := by decide +kernel
theorem d_Law_law_1366 : decode m_Law_law.2.1 1366 = .ok (.iaload, 1) := by decide +kernel
theorem d_Law_law_1367 : decode m_Law_law.2.1 1367 = .ok (.aload_n 0, 1) := by decide +kernel
theorem d_Law_law_1368 : decode m_Law_law.2.1 1368 = .ok (.iload 4, 2) := by decide +kernel
theorem d_Law_law_1370 : decode m_Law_law.2.1 1370 = .ok (.iconst 4, 1) := by decide +kernel
theorem d_Law_law_1371 : decode m_Law_law.2.1 1371 = .ok (.iadd, 1) := by decide +kernel
theorem d_Law_law_1372 : decode m_Law_law.2.1 1372 = .ok (.iaload, 1) := by decide +kernel
theorem d_Law_law_1373 : decode m_Law_law.2.1 1373 = .ok (.invokevirtual 138, 3) := by decide +kernel
theorem d_Law_law_1376 : decode m_Law_law.2.1 1376 = .ok (.if_icmp .eq 86, 3) := by decide +kernel
theorem d_Law_law_1379 : decode m_Law_law.2.1 1379 = .ok (.iconst 0, 1) := by decide +kernel
theorem d_Law_law_1380 : decode m_Law_law.2.1 1380 = .ok (.ireturn, 1) := by decide +kernel
theorem d_Law_law_1381 : decode m_Law_law.2.1 1381 = .ok (.aload_n 1, 1) := by decide +kernel
theorem d_Law_law_1382 : decode m_Law_law.2.1 1382 = .ok (.aload_n 0, 1) := by decide +kernel
theorem d_Law_law_1383 : decode m_Law_law.2.1 1383 = .ok (.iload 4, 2) := by decide +kernel
theorem d_Law_law_1385 : decode m_Law_law.2.1 1385 = .ok (.iconst 1, 1) := by decide +kernel
theorem d_Law_law_1386 : decode m_Law_law.2.1 1386 = .ok (.iadd, 1) := by decide +kernel
theorem d_Law_law_1387 : decode m_Law_law.2.1 1387 = .ok (.iaload, 1) := by decide +kernel
theorem d_Law_law_1388 : decode m_Law_law.2.1 1388 = .ok (.aload_n 0, 1) := by decide +kernel
theorem d_Law_law_1389 : decode m_Law_law.2.1 1389 = .ok (.iload 4, 2) := by decide +kernel
theorem d_Law_law_1391 : decode m_Law_law.2.1 1391 = .ok (.iconst 2, 1) := by decide +kernel
theorem d_Law_law_1392 : decode m_Law_law.2.1 1392 = .ok (.iadd, 1) := by decide +kernel
theorem d_Law_law_1393 : decode m_Law_law.2.1 1393 = .ok (.iaload, 1) := by decide +kernel
theorem d_Law_law_1394 : decode m_Law_law.2.1 1394 = .ok (.invokevirtual 139, 3) := by decide +kernel
theorem d_Law_law_1397 : decode m_Law_law.2.1 1397 = .ok (.aload_n 2, 1) := by decide +kernel
theorem d_Law_law_1398 : decode m_Law_law.2.1 1398 = .ok (.aload_n 0, 1) := by decide +kernel
theorem d_Law_law_1399 : decode m_Law_law.2.1 1399 = .ok (.iload 4, 2) := by decide +kernel
theorem d_Law_law_1401 : decode m_Law_law.2.1 1401 = .ok (.iconst 1, 1) := by decide +kernel
theorem d_Law_law_1402 : decode m_Law_law.2.1 1402 = .ok (.iadd, 1) := by decide +kernel
theorem d_Law_law_1403 : decode m_Law_law.2.1 1403 = .ok (.iaload, 1) := by decide +kernel
theorem d_Law_law_1404 : decode m_Law_law.2.1 1404 = .ok (.aload_n 0, 1) := by decide +kernel
theorem d_Law_law_1405 : decode m_Law_law.2.1 1405 = .ok (.iload 4, 2) := by decide +kernel
theorem d_Law_law_1407 : decode m_Law_law.2.1 1407 = .ok (.iconst 2, 1) := by decide +kernel
theorem d_Law_law_1408 : decode m_Law_law.2.1 1408 = .ok (.iadd, 1) := by decide +kernel
theorem d_Law_law_1409 : decode m_Law_law.2.1 1409 = .ok (.iaload, 1) := by decide +kernel
theorem d_Law_law_1410 : decode m_Law_law.2.1 1410 = .ok (.invokevirtual 142, 3) := by decide +kernel
theorem d_Law_law_1413 : decode m_Law_law.2.1 1413 = .ok (.if_icmp .eq 49, 3) := by decide +kernel
theorem d_Law_law_1416 : decode m_Law_law.2.1 1416 = .ok (.iconst 0, 1) := by decide +kernel
theorem d_Law_law_1417 : decode m_Law_law.2.1 1417 = .ok (.ireturn, 1) := by decide +kernel
theorem d_Law_law_1418 : decode m_Law_law.2.1 1418 = .ok (.aload_n 1, 1) := by decide +kernel
theorem d_Law_law_1419 : decode m_Law_law.2.1 1419 = .ok (.aload_n 3, 1) := by decide +kernel
theorem d_Law_law_1420 : decode m_Law_law.2.1 1420 = .ok (.invokestatic 143, 3) := by decide +kernel
theorem d_Law_law_1423 : decode m_Law_law.2.1 1423 = .ok (.istore 5, 2) := by decide +kernel
theorem d_Law_law_1425 : decode m_Law_law.2.1 1425 = .ok (.aload_n 2, 1) := by decide +kernel
theorem d_Law_law_1426 : decode m_Law_law.2.1 1426 = .ok (.invokevirtual 146, 3) := by decide +kernel
theorem d_Law_law_1429 : decode m_Law_law.2.1 1429 = .ok (.istore 6, 2) := by decide +kernel
theorem d_Law_law_1431 : decode m_Law_law.2.1 1431 = .ok (.aload_n 2, 1) := by decide +kernel
theorem d_Law_law_1432 : decode m_Law_law.2.1 1432 = .ok (.invokevirtual 73, 3) := by decide +kernel
theorem d_Law_law_1435 : decode m_Law_law.2.1 1435 = .ok (.iload 5, 2) := by decide +kernel
theorem d_Law_law_1437 : decode m_Law_law.2.1 1437 = .ok (.if_icmp .eq 5, 3) := by decide +kernel
theorem d_Law_law_1440 : decode m_Law_law.2.1 1440 = .ok (.iconst 0, 1) := by decide +kernel
theorem d_Law_law_1441 : decode m_Law_law.2.1 1441 = .ok (.ireturn, 1) := by decide +kernel
theorem d_Law_law_1442 : decode m_Law_law.2.1 1442 = .ok (.iload 5, 2) := by decide +kernel
theorem d_Law_law_1444 : decode m_Law_law.2.1 1444 = .ok (.ifCond .ne 15, 3) := by decide +kernel
theorem d_Law_law_1447 : decode m_Law_law.2.1 1447 = .ok (.aload_n 3, 1) := by decide +kernel
theorem d_Law_law_1448 : decode m_Law_law.2.1 1448 = .ok (.iconst 0, 1) := by decide +kernel
theorem d_Law_law_1449 : decode m_Law_law.2.1 1449 = .ok (.laload, 1) := by decide +kernel
theorem d_Law_law_1450 : decode m_Law_law.2.1 1450 = .ok (.iload 6, 2) := by decide +kernel
theorem d_Law_law_1452 : decode m_Law_law.2.1 1452 = .ok (.i2l, 1) := by decide +kernel
theorem d_Law_law_1453 : decode m_Law_law.2.1 1453 = .ok (.lcmp, 1) := by decide +kernel
theorem d_Law_law_1454 : decode m_Law_law.2.1 1454 = .ok (.ifCond .eq 5, 3) := by decide +kernel
theorem d_Law_law_1457 : decode m_Law_law.2.1 1457 = .ok (.iconst 0, 1) := by decide +kernel
theorem d_Law_law_1458 : decode m_Law_law.2.1 1458 = .ok (.ireturn, 1) := by decide +kernel
theorem d_Law_law_1459 : decode m_Law_law.2.1 1459 = .ok (.goto 3, 3) := by decide +kernel
theorem d_Law_law_1462 : decode m_Law_law.2.1 1462 = .ok (.iinc 4 5, 3) := by decide +kernel
theorem d_Law_law_1465 : decode m_Law_law.2.1 1465 = .ok (.goto (-1442), 3) := by decide +kernel
theorem d_Law_law_1468 : decode m_Law_law.2.1 1468 = .ok (.iconst 1, 1) := by decide +kernel
theorem d_Law_law_1469 : decode m_Law_law.2.1 1469 = .ok (.ireturn, 1) := by decide +kernel
