theorem d_La_law_1366 : decode code 1366 = .ok (.iadd, 1) := by decide +kernel
theorem d_La_law_1367 : decode code 1367 = .ok (.iaload, 1) := by decide +kernel
theorem d_La_law_1368 : decode code 1368 = .ok (.aload_n 0, 1) := by decide +kernel
theorem d_La_law_1369 : decode code 1369 = .ok (.iload 4, 2) := by decide +kernel
theorem d_La_law_1371 : decode code 1371 = .ok (.iconst 3, 1) := by decide +kernel
theorem d_La_law_1372 : decode code 1372 = .ok (.iadd, 1) := by decide +kernel
theorem d_La_law_1373 : decode code 1373 = .ok (.iaload, 1) := by decide +kernel
theorem d_La_law_1374 : decode code 1374 = .ok (.aload_n 3, 1) := by decide +kernel
theorem d_La_law_1375 : decode code 1375 = .ok (.invokestatic 158, 3) := by decide +kernel
theorem d_La_law_1378 : decode code 1378 = .ok (.istore 5, 2) := by decide +kernel
theorem d_La_law_1380 : decode code 1380 = .ok (.aload_n 2, 1) := by decide +kernel
theorem d_La_law_1381 : decode code 1381 = .ok (.aload_n 0, 1) := by decide +kernel
theorem d_La_law_1382 : decode code 1382 = .ok (.iload 4, 2) := by decide +kernel
theorem d_La_law_1384 : decode code 1384 = .ok (.iconst 1, 1) := by decide +kernel
theorem d_La_law_1385 : decode code 1385 = .ok (.iadd, 1) := by decide +kernel
theorem d_La_law_1386 : decode code 1386 = .ok (.iaload, 1) := by decide +kernel
theorem d_La_law_1387 : decode code 1387 = .ok (.aload_n 0, 1) := by decide +kernel
theorem d_La_law_1388 : decode code 1388 = .ok (.iload 4, 2) := by decide +kernel
theorem d_La_law_1390 : decode code 1390 = .ok (.iconst 2, 1) := by decide +kernel
theorem d_La_law_1391 : decode code 1391 = .ok (.iadd, 1) := by decide +kernel
theorem d_La_law_1392 : decode code 1392 = .ok (.iaload, 1) := by decide +kernel
theorem d_La_law_1393 : decode code 1393 = .ok (.aload_n 0, 1) := by decide +kernel
theorem d_La_law_1394 : decode code 1394 = .ok (.iload 4, 2) := by decide +kernel
theorem d_La_law_1396 : decode code 1396 = .ok (.iconst 3, 1) := by decide +kernel
theorem d_La_law_1397 : decode code 1397 = .ok (.iadd, 1) := by decide +kernel
theorem d_La_law_1398 : decode code 1398 = .ok (.iaload, 1) := by decide +kernel
theorem d_La_law_1399 : decode code 1399 = .ok (.invokevirtual 160, 3) := by decide +kernel
theorem d_La_law_1402 : decode code 1402 = .ok (.istore 6, 2) := by decide +kernel
theorem d_La_law_1404 : decode code 1404 = .ok (.aload_n 2, 1) := by decide +kernel
theorem d_La_law_1405 : decode code 1405 = .ok (.invokevirtual 92, 3) := by decide +kernel
theorem d_La_law_1408 : decode code 1408 = .ok (.iload 5, 2) := by decide +kernel
theorem d_La_law_1410 : decode code 1410 = .ok (.if_icmp .eq 5, 3) := by decide +kernel
theorem d_La_law_1413 : decode code 1413 = .ok (.iconst 0, 1) := by decide +kernel
theorem d_La_law_1414 : decode code 1414 = .ok (.ireturn, 1) := by decide +kernel
theorem d_La_law_1415 : decode code 1415 = .ok (.iload 5, 2) := by decide +kernel
theorem d_La_law_1417 : decode code 1417 = .ok (.ifCond .ne 15, 3) := by decide +kernel
theorem d_La_law_1420 : decode code 1420 = .ok (.aload_n 3, 1) := by decide +kernel
theorem d_La_law_1421 : decode code 1421 = .ok (.iconst 0, 1) := by decide +kernel
theorem d_La_law_1422 : decode code 1422 = .ok (.laload, 1) := by decide +kernel
theorem d_La_law_1423 : decode code 1423 = .ok (.iload 6, 2) := by decide +kernel
theorem d_La_law_1425 : decode code 1425 = .ok (.i2l, 1) := by decide +kernel
theorem d_La_law_1426 : decode code 1426 = .ok (.lcmp, 1) := by decide +kernel
theorem d_La_law_1427 : decode code 1427 = .ok (.ifCond .eq 5, 3) := by decide +kernel
theorem d_La_law_1430 : decode code 1430 = .ok (.iconst 0, 1) := by decide +kernel
theorem d_La_law_1431 : decode code 1431 = .ok (.ireturn, 1) := by decide +kernel
theorem d_La_law_1432 : decode code 1432 = .ok (.goto 95, 3) := by decide +kernel
theorem d_La_law_1435 : decode code 1435 = .ok (.aload_n 1, 1) := by decide +kernel
theorem d_La_law_1436 : decode code 1436 = .ok (.aload_n 0, 1) := by decide +kernel
theorem d_La_law_1437 : decode code 1437 = .ok (.iload 4, 2) := by decide +kernel
theorem d_La_law_1439 : decode code 1439 = .ok (.iconst 1, 1) := by decide +kernel
theorem d_La_law_1440 : decode code 1440 = .ok (.iadd, 1) := by decide +kernel
theorem d_La_law_1441 : decode code 1441 = .ok (.iaload, 1) := by decide +kernel
theorem d_La_law_1442 : decode code 1442 = .ok (.aload_n 0, 1) := by decide +kernel
theorem d_La_law_1443 : decode code 1443 = .ok (.iload 4, 2) := by decide +kernel
theorem d_La_law_1445 : decode code 1445 = .ok (.iconst 2, 1) := by decide +kernel
theorem d_La_law_1446 : decode code 1446 = .ok (.iadd, 1) := by decide +kernel
theorem d_La_law_1447 : decode code 1447 = .ok (.iaload, 1) := by decide +kernel
theorem d_La_law_1448 : decode code 1448 = .ok (.aload_n 0, 1) := by decide +kernel
theorem d_La_law_1449 : decode code 1449 = .ok (.iload 4, 2) := by decide +kernel
theorem d_La_law_1451 : decode code 1451 = .ok (.iconst 3, 1) := by decide +kernel
theorem d_La_law_1452 : decode code 1452 = .ok (.iadd, 1) := by decide +kernel
theorem d_La_law_1453 : decode code 1453 = .ok (.iaload, 1) := by decide +kernel
theorem d_La_law_1454 : decode code 1454 = .ok (.aload_n 0, 1) := by decide +kernel
theorem d_La_law_1455 : decode code 1455 = .ok (.iload 4, 2) := by decide +kernel
theorem d_La_law_1457 : decode code 1457 = .ok (.iconst 4, 1) := by decide +kernel
theorem d_La_law_1458 : decode code 1458 = .ok (.iadd, 1) := by decide +kernel
theorem d_La_law_1459 : decode code 1459 = .ok (.iaload, 1) := by decide +kernel
theorem d_La_law_1460 : decode code 1460 = .ok (.aload_n 3, 1) := by decide +kernel
theorem d_La_law_1461 : decode code 1461 = .ok (.invokestatic 161, 3) := by decide +kernel
theorem d_La_law_1464 : decode code 1464 = .ok (.istore 5, 2) := by decide +kernel
theorem d_La_law_1466 : decode code 1466 = .ok (.aload_n 2, 1) := by decide +kernel
theorem d_La_law_1467 : decode code 1467 = .ok (.aload_n 0, 1) := by decide +kernel
theorem d_La_law_1468 : decode code 1468 = .ok (.iload 4, 2) := by decide +kernel
theorem d_La_law_1470 : decode code 1470 = .ok (.iconst 1, 1) := by decide +kernel
theorem d_La_law_1471 : decode code 1471 = .ok (.iadd, 1) := by decide +kernel
theorem d_La_law_1472 : decode code 1472 = .ok (.iaload, 1) := by decide +kernel
theorem d_La_law_1473 : decode code 1473 = .ok (.aload_n 0, 1) := by decide +kernel
theorem d_La_law_1474 : decode code 1474 = .ok (.iload 4, 2) := by decide +kernel
theorem d_La_law_1476 : decode code 1476 = .ok (.iconst 2, 1) := by decide +kernel
theorem d_La_law_1477 : decode code 1477 = .ok (.iadd, 1) := by decide +kernel
theorem d_La_law_1478 : decode code 1478 = .ok (.iaload, 1) := by decide +kernel
theorem d_La_law_1479 : decode code 1479 = .ok (.aload_n 0, 1) := by decide +kernel
theorem d_La_law_1480 : decode code 1480 = .ok (.iload 4, 2) := by decide +kernel
theorem d_La_law_1482 : decode code 1482 = .ok (.iconst 3, 1) := by decide +kernel
theorem d_La_law_1483 : decode code 1483 = .ok (.iadd, 1) := by decide +kernel
theorem d_La_law_1484 : decode code 1484 = .ok (.iaload, 1) := by decide +kernel
theorem d_La_law_1485 : decode code 1485 = .ok (.aload_n 0, 1) := by decide +kernel
theorem d_La_law_1486 : decode code 1486 = .ok (.iload 4, 2) := by decide +kernel
theorem d_La_law_1488 : decode code 1488 = .ok (.iconst 4, 1) := by decide +kernel
theorem d_La_law_1489 : decode code 1489 = .ok (.iadd, 1) := by decide +kernel
theorem d_La_law_1490 : decode code 1490 = .ok (.iaload, 1) := by decide +kernel
theorem d_La_law_1491 : decode code 1491 = .ok (.invokevirtual 163, 3) := by decide +kernel
theorem d_La_law_1494 : decode code 1494 = .ok (.istore 6, 2) := by decide +kernel
theorem d_La_law_1496 : decode code 1496 = .ok (.aload_n 2, 1) := by decide +kernel
theorem d_La_law_1497 : decode code 1497 = .ok (.invokevirtual 92, 3) := by decide +kernel
theorem d_La_law_1500 : decode code 1500 = .ok (.iload 5, 2) := by decide +kernel
theorem d_La_law_1502 : decode code 1502 = .ok (.if_icmp .eq 5, 3) := by decide +kernel
theorem d_La_law_1505 : decode code 1505 = .ok (.iconst 0, 1) := by decide +kernel
theorem d_La_law_1506 : decode code 1506 = .ok (.ireturn, 1) := by decide +kernel
theorem d_La_law_1507 : decode code 1507 = .ok (.iload 5, 2) := by decide +kernel
theorem d_La_law_1509 : decode code 1509 = .ok (.ifCond .ne 15, 3) := by decide +kernel
theorem d_La_law_1512 : decode code 1512 = .ok (.aload_n 3, 1) := by decide +kernel
theorem d_La_law_1513 : decode code 1513 = .ok (.iconst 0, 1) := by decide +kernel
theorem d_La_law_1514 : decode code 1514 = .ok (.laload, 1) := by decide +kernel
theorem d_La_law_1515 : decode code 1515 = .ok (.iload 6, 2) := by decide +kernel
theorem d_La_law_1517 : decode code 1517 = .ok (.i2l, 1) := by decide +kernel
theorem d_La_law_1518 : decode code 1518 = .ok (.lcmp, 1) := by decide +kernel
theorem d_La_law_1519 : decode code 1519 = .ok (.ifCond .eq 5, 3) := by decide +kernel
theorem d_La_law_1522 : decode code 1522 = .ok (.iconst 0, 1) := by decide +kernel
theorem d_La_law_1523 : decode code 1523 = .ok (.ireturn, 1) := by decide +kernel
theorem d_La_law_1524 : decode code 1524 = .ok (.goto 3, 3) := by decide +kernel
theorem d_La_law_1527 : decode code 1527 = .ok (.iinc 4 5, 3) := by decide +kernel
theorem d_La_law_1530 : decode code 1530 = .ok (.goto (-1497), 3) := by decide +kernel
theorem d_La_law_1533 : decode code 1533 = .ok (.iconst 1, 1) := by decide +kernel
theorem d_La_law_1534 : decode code 1534 = .ok (.ireturn, 1) := by decide +kernel
