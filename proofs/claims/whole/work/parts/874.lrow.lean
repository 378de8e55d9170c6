/-! The law: its rows 4 (written by wip/whole/genlaw.py) -/
section
theorem d417_1307 : decode code 1307 = .ok (.iadd, 1) := by decide +kernel
theorem d417_1308 : decode code 1308 = .ok (.iaload, 1) := by decide +kernel
theorem d417_1309 : decode code 1309 = .ok (.invokevirtual 219, 3) := by decide +kernel
theorem d417_1312 : decode code 1312 = .ok (.istore 6, 2) := by decide +kernel
theorem d417_1314 : decode code 1314 = .ok (.aload_n 2, 1) := by decide +kernel
theorem d417_1315 : decode code 1315 = .ok (.invokevirtual 147, 3) := by decide +kernel
theorem d417_1318 : decode code 1318 = .ok (.iload 5, 2) := by decide +kernel
theorem d417_1320 : decode code 1320 = .ok (.if_icmp .eq 5, 3) := by decide +kernel
theorem d417_1323 : decode code 1323 = .ok (.iconst 0, 1) := by decide +kernel
theorem d417_1324 : decode code 1324 = .ok (.ireturn, 1) := by decide +kernel
theorem d417_1325 : decode code 1325 = .ok (.iload 5, 2) := by decide +kernel
theorem d417_1327 : decode code 1327 = .ok (.ifCond .ne 15, 3) := by decide +kernel
theorem d417_1330 : decode code 1330 = .ok (.aload_n 3, 1) := by decide +kernel
theorem d417_1331 : decode code 1331 = .ok (.iconst 0, 1) := by decide +kernel
theorem d417_1332 : decode code 1332 = .ok (.laload, 1) := by decide +kernel
theorem d417_1333 : decode code 1333 = .ok (.iload 6, 2) := by decide +kernel
theorem d417_1335 : decode code 1335 = .ok (.i2l, 1) := by decide +kernel
theorem d417_1336 : decode code 1336 = .ok (.lcmp, 1) := by decide +kernel
theorem d417_1337 : decode code 1337 = .ok (.ifCond .eq 5, 3) := by decide +kernel
theorem d417_1340 : decode code 1340 = .ok (.iconst 0, 1) := by decide +kernel
theorem d417_1341 : decode code 1341 = .ok (.ireturn, 1) := by decide +kernel
theorem d417_1342 : decode code 1342 = .ok (.goto 1441, 3) := by decide +kernel
theorem d417_1345 : decode code 1345 = .ok (.aload_n 1, 1) := by decide +kernel
theorem d417_1346 : decode code 1346 = .ok (.aload_n 0, 1) := by decide +kernel
theorem d417_1347 : decode code 1347 = .ok (.iload 4, 2) := by decide +kernel
theorem d417_1349 : decode code 1349 = .ok (.iconst 1, 1) := by decide +kernel
theorem d417_1350 : decode code 1350 = .ok (.iadd, 1) := by decide +kernel
theorem d417_1351 : decode code 1351 = .ok (.iaload, 1) := by decide +kernel
theorem d417_1352 : decode code 1352 = .ok (.aload_n 3, 1) := by decide +kernel
theorem d417_1353 : decode code 1353 = .ok (.invokestatic 220, 3) := by decide +kernel
theorem d417_1356 : decode code 1356 = .ok (.istore 5, 2) := by decide +kernel
theorem d417_1358 : decode code 1358 = .ok (.aload_n 2, 1) := by decide +kernel
theorem d417_1359 : decode code 1359 = .ok (.aload_n 0, 1) := by decide +kernel
theorem d417_1360 : decode code 1360 = .ok (.iload 4, 2) := by decide +kernel
theorem d417_1362 : decode code 1362 = .ok (.iconst 1, 1) := by decide +kernel
theorem d417_1363 : decode code 1363 = .ok (.iadd, 1) := by decide +kernel
theorem d417_1364 : decode code 1364 = .ok (.iaload, 1) := by decide +kernel
theorem d417_1365 : decode code 1365 = .ok (.invokevirtual 222, 3) := by decide +kernel
theorem d417_1368 : decode code 1368 = .ok (.istore 6, 2) := by decide +kernel
theorem d417_1370 : decode code 1370 = .ok (.aload_n 2, 1) := by decide +kernel
theorem d417_1371 : decode code 1371 = .ok (.invokevirtual 147, 3) := by decide +kernel
theorem d417_1374 : decode code 1374 = .ok (.iload 5, 2) := by decide +kernel
theorem d417_1376 : decode code 1376 = .ok (.if_icmp .eq 5, 3) := by decide +kernel
theorem d417_1379 : decode code 1379 = .ok (.iconst 0, 1) := by decide +kernel
theorem d417_1380 : decode code 1380 = .ok (.ireturn, 1) := by decide +kernel
theorem d417_1381 : decode code 1381 = .ok (.iload 5, 2) := by decide +kernel
theorem d417_1383 : decode code 1383 = .ok (.ifCond .ne 22, 3) := by decide +kernel
theorem d417_1386 : decode code 1386 = .ok (.aload_n 3, 1) := by decide +kernel
theorem d417_1387 : decode code 1387 = .ok (.iconst 0, 1) := by decide +kernel
theorem d417_1388 : decode code 1388 = .ok (.laload, 1) := by decide +kernel
theorem d417_1389 : decode code 1389 = .ok (.iload 6, 2) := by decide +kernel
theorem d417_1391 : decode code 1391 = .ok (.ifCond .eq 7, 3) := by decide +kernel
theorem d417_1394 : decode code 1394 = .ok (.lconst 1, 1) := by decide +kernel
theorem d417_1395 : decode code 1395 = .ok (.goto 4, 3) := by decide +kernel
theorem d417_1398 : decode code 1398 = .ok (.lconst 0, 1) := by decide +kernel
theorem d417_1399 : decode code 1399 = .ok (.lcmp, 1) := by decide +kernel
theorem d417_1400 : decode code 1400 = .ok (.ifCond .eq 5, 3) := by decide +kernel
theorem d417_1403 : decode code 1403 = .ok (.iconst 0, 1) := by decide +kernel
theorem d417_1404 : decode code 1404 = .ok (.ireturn, 1) := by decide +kernel
theorem d417_1405 : decode code 1405 = .ok (.goto 1378, 3) := by decide +kernel
theorem d417_1408 : decode code 1408 = .ok (.aload_n 1, 1) := by decide +kernel
theorem d417_1409 : decode code 1409 = .ok (.aload_n 0, 1) := by decide +kernel
theorem d417_1410 : decode code 1410 = .ok (.iload 4, 2) := by decide +kernel
theorem d417_1412 : decode code 1412 = .ok (.iconst 1, 1) := by decide +kernel
theorem d417_1413 : decode code 1413 = .ok (.iadd, 1) := by decide +kernel
theorem d417_1414 : decode code 1414 = .ok (.iaload, 1) := by decide +kernel
theorem d417_1415 : decode code 1415 = .ok (.aload_n 3, 1) := by decide +kernel
theorem d417_1416 : decode code 1416 = .ok (.invokestatic 223, 3) := by decide +kernel
theorem d417_1419 : decode code 1419 = .ok (.istore 5, 2) := by decide +kernel
theorem d417_1421 : decode code 1421 = .ok (.aload_n 2, 1) := by decide +kernel
theorem d417_1422 : decode code 1422 = .ok (.aload_n 0, 1) := by decide +kernel
theorem d417_1423 : decode code 1423 = .ok (.iload 4, 2) := by decide +kernel
theorem d417_1425 : decode code 1425 = .ok (.iconst 1, 1) := by decide +kernel
theorem d417_1426 : decode code 1426 = .ok (.iadd, 1) := by decide +kernel
theorem d417_1427 : decode code 1427 = .ok (.iaload, 1) := by decide +kernel
theorem d417_1428 : decode code 1428 = .ok (.invokevirtual 225, 3) := by decide +kernel
theorem d417_1431 : decode code 1431 = .ok (.istore 6, 2) := by decide +kernel
theorem d417_1433 : decode code 1433 = .ok (.aload_n 2, 1) := by decide +kernel
theorem d417_1434 : decode code 1434 = .ok (.invokevirtual 147, 3) := by decide +kernel
theorem d417_1437 : decode code 1437 = .ok (.iload 5, 2) := by decide +kernel
theorem d417_1439 : decode code 1439 = .ok (.if_icmp .eq 5, 3) := by decide +kernel
theorem d417_1442 : decode code 1442 = .ok (.iconst 0, 1) := by decide +kernel
theorem d417_1443 : decode code 1443 = .ok (.ireturn, 1) := by decide +kernel
theorem d417_1444 : decode code 1444 = .ok (.iload 5, 2) := by decide +kernel
theorem d417_1446 : decode code 1446 = .ok (.ifCond .ne 22, 3) := by decide +kernel
theorem d417_1449 : decode code 1449 = .ok (.aload_n 3, 1) := by decide +kernel
theorem d417_1450 : decode code 1450 = .ok (.iconst 0, 1) := by decide +kernel
theorem d417_1451 : decode code 1451 = .ok (.laload, 1) := by decide +kernel
theorem d417_1452 : decode code 1452 = .ok (.iload 6, 2) := by decide +kernel
theorem d417_1454 : decode code 1454 = .ok (.ifCond .eq 7, 3) := by decide +kernel
theorem d417_1457 : decode code 1457 = .ok (.lconst 1, 1) := by decide +kernel
theorem d417_1458 : decode code 1458 = .ok (.goto 4, 3) := by decide +kernel
theorem d417_1461 : decode code 1461 = .ok (.lconst 0, 1) := by decide +kernel
theorem d417_1462 : decode code 1462 = .ok (.lcmp, 1) := by decide +kernel
theorem d417_1463 : decode code 1463 = .ok (.ifCond .eq 5, 3) := by decide +kernel
theorem d417_1466 : decode code 1466 = .ok (.iconst 0, 1) := by decide +kernel
theorem d417_1467 : decode code 1467 = .ok (.ireturn, 1) := by decide +kernel
theorem d417_1468 : decode code 1468 = .ok (.goto 1315, 3) := by decide +kernel
theorem d417_1471 : decode code 1471 = .ok (.aload_n 1, 1) := by decide +kernel
theorem d417_1472 : decode code 1472 = .ok (.aload_n 0, 1) := by decide +kernel
theorem d417_1473 : decode code 1473 = .ok (.iload 4, 2) := by decide +kernel
theorem d417_1475 : decode code 1475 = .ok (.iconst 1, 1) := by decide +kernel
theorem d417_1476 : decode code 1476 = .ok (.iadd, 1) := by decide +kernel
theorem d417_1477 : decode code 1477 = .ok (.iaload, 1) := by decide +kernel
theorem d417_1478 : decode code 1478 = .ok (.aload_n 3, 1) := by decide +kernel
theorem d417_1479 : decode code 1479 = .ok (.invokestatic 226, 3) := by decide +kernel
theorem d417_1482 : decode code 1482 = .ok (.istore 5, 2) := by decide +kernel
theorem d417_1484 : decode code 1484 = .ok (.aload_n 2, 1) := by decide +kernel
theorem d417_1485 : decode code 1485 = .ok (.aload_n 0, 1) := by decide +kernel
theorem d417_1486 : decode code 1486 = .ok (.iload 4, 2) := by decide +kernel
theorem d417_1488 : decode code 1488 = .ok (.iconst 1, 1) := by decide +kernel
theorem d417_1489 : decode code 1489 = .ok (.iadd, 1) := by decide +kernel
theorem d417_1490 : decode code 1490 = .ok (.iaload, 1) := by decide +kernel
theorem d417_1491 : decode code 1491 = .ok (.invokevirtual 228, 3) := by decide +kernel
theorem d417_1494 : decode code 1494 = .ok (.istore 6, 2) := by decide +kernel
theorem d417_1496 : decode code 1496 = .ok (.aload_n 2, 1) := by decide +kernel
theorem d417_1497 : decode code 1497 = .ok (.invokevirtual 147, 3) := by decide +kernel
theorem d417_1500 : decode code 1500 = .ok (.iload 5, 2) := by decide +kernel
theorem d417_1502 : decode code 1502 = .ok (.if_icmp .eq 5, 3) := by decide +kernel
theorem d417_1505 : decode code 1505 = .ok (.iconst 0, 1) := by decide +kernel
theorem d417_1506 : decode code 1506 = .ok (.ireturn, 1) := by decide +kernel
theorem d417_1507 : decode code 1507 = .ok (.iload 5, 2) := by decide +kernel
theorem d417_1509 : decode code 1509 = .ok (.ifCond .ne 22, 3) := by decide +kernel
theorem d417_1512 : decode code 1512 = .ok (.aload_n 3, 1) := by decide +kernel
theorem d417_1513 : decode code 1513 = .ok (.iconst 0, 1) := by decide +kernel
theorem d417_1514 : decode code 1514 = .ok (.laload, 1) := by decide +kernel
theorem d417_1515 : decode code 1515 = .ok (.iload 6, 2) := by decide +kernel
theorem d417_1517 : decode code 1517 = .ok (.ifCond .eq 7, 3) := by decide +kernel
theorem d417_1520 : decode code 1520 = .ok (.lconst 1, 1) := by decide +kernel
theorem d417_1521 : decode code 1521 = .ok (.goto 4, 3) := by decide +kernel
theorem d417_1524 : decode code 1524 = .ok (.lconst 0, 1) := by decide +kernel
theorem d417_1525 : decode code 1525 = .ok (.lcmp, 1) := by decide +kernel
theorem d417_1526 : decode code 1526 = .ok (.ifCond .eq 5, 3) := by decide +kernel
theorem d417_1529 : decode code 1529 = .ok (.iconst 0, 1) := by decide +kernel
theorem d417_1530 : decode code 1530 = .ok (.ireturn, 1) := by decide +kernel
theorem d417_1531 : decode code 1531 = .ok (.goto 1252, 3) := by decide +kernel
theorem d417_1534 : decode code 1534 = .ok (.aload_n 1, 1) := by decide +kernel
theorem d417_1535 : decode code 1535 = .ok (.aload_n 0, 1) := by decide +kernel
theorem d417_1536 : decode code 1536 = .ok (.iload 4, 2) := by decide +kernel
theorem d417_1538 : decode code 1538 = .ok (.iconst 1, 1) := by decide +kernel
theorem d417_1539 : decode code 1539 = .ok (.iadd, 1) := by decide +kernel
theorem d417_1540 : decode code 1540 = .ok (.iaload, 1) := by decide +kernel
theorem d417_1541 : decode code 1541 = .ok (.aload_n 3, 1) := by decide +kernel
theorem d417_1542 : decode code 1542 = .ok (.invokestatic 229, 3) := by decide +kernel
theorem d417_1545 : decode code 1545 = .ok (.istore 5, 2) := by decide +kernel
theorem d417_1547 : decode code 1547 = .ok (.aload_n 2, 1) := by decide +kernel
theorem d417_1548 : decode code 1548 = .ok (.aload_n 0, 1) := by decide +kernel
theorem d417_1549 : decode code 1549 = .ok (.iload 4, 2) := by decide +kernel
theorem d417_1551 : decode code 1551 = .ok (.iconst 1, 1) := by decide +kernel
theorem d417_1552 : decode code 1552 = .ok (.iadd, 1) := by decide +kernel
theorem d417_1553 : decode code 1553 = .ok (.iaload, 1) := by decide +kernel
theorem d417_1554 : decode code 1554 = .ok (.invokevirtual 231, 3) := by decide +kernel
theorem d417_1557 : decode code 1557 = .ok (.istore 6, 2) := by decide +kernel
theorem d417_1559 : decode code 1559 = .ok (.aload_n 2, 1) := by decide +kernel
theorem d417_1560 : decode code 1560 = .ok (.invokevirtual 147, 3) := by decide +kernel
theorem d417_1563 : decode code 1563 = .ok (.iload 5, 2) := by decide +kernel
theorem d417_1565 : decode code 1565 = .ok (.if_icmp .eq 5, 3) := by decide +kernel
theorem d417_1568 : decode code 1568 = .ok (.iconst 0, 1) := by decide +kernel
theorem d417_1569 : decode code 1569 = .ok (.ireturn, 1) := by decide +kernel
theorem d417_1570 : decode code 1570 = .ok (.iload 5, 2) := by decide +kernel
theorem d417_1572 : decode code 1572 = .ok (.ifCond .ne 22, 3) := by decide +kernel
theorem d417_1575 : decode code 1575 = .ok (.aload_n 3, 1) := by decide +kernel
theorem d417_1576 : decode code 1576 = .ok (.iconst 0, 1) := by decide +kernel
theorem d417_1577 : decode code 1577 = .ok (.laload, 1) := by decide +kernel
theorem d417_1578 : decode code 1578 = .ok (.iload 6, 2) := by decide +kernel
theorem d417_1580 : decode code 1580 = .ok (.ifCond .eq 7, 3) := by decide +kernel
theorem d417_1583 : decode code 1583 = .ok (.lconst 1, 1) := by decide +kernel
theorem d417_1584 : decode code 1584 = .ok (.goto 4, 3) := by decide +kernel
theorem d417_1587 : decode code 1587 = .ok (.lconst 0, 1) := by decide +kernel
theorem d417_1588 : decode code 1588 = .ok (.lcmp, 1) := by decide +kernel
end
