theorem dL_law_1370 : decode cL_law 1370 = .ok (.aload_n 1, 1) := by decide +kernel
theorem dL_law_1371 : decode cL_law 1371 = .ok (.aload_n 0, 1) := by decide +kernel
theorem dL_law_1372 : decode cL_law 1372 = .ok (.iload 4, 2) := by decide +kernel
theorem dL_law_1374 : decode cL_law 1374 = .ok (.iconst 1, 1) := by decide +kernel
theorem dL_law_1375 : decode cL_law 1375 = .ok (.iadd, 1) := by decide +kernel
theorem dL_law_1376 : decode cL_law 1376 = .ok (.iaload, 1) := by decide +kernel
theorem dL_law_1377 : decode cL_law 1377 = .ok (.aload_n 3, 1) := by decide +kernel
theorem dL_law_1378 : decode cL_law 1378 = .ok (.invokestatic 179, 3) := by decide +kernel
theorem dL_law_1381 : decode cL_law 1381 = .ok (.istore 5, 2) := by decide +kernel
theorem dL_law_1383 : decode cL_law 1383 = .ok (.aload_n 2, 1) := by decide +kernel
theorem dL_law_1384 : decode cL_law 1384 = .ok (.aload_n 0, 1) := by decide +kernel
theorem dL_law_1385 : decode cL_law 1385 = .ok (.iload 4, 2) := by decide +kernel
theorem dL_law_1387 : decode cL_law 1387 = .ok (.iconst 1, 1) := by decide +kernel
theorem dL_law_1388 : decode cL_law 1388 = .ok (.iadd, 1) := by decide +kernel
theorem dL_law_1389 : decode cL_law 1389 = .ok (.iaload, 1) := by decide +kernel
theorem dL_law_1390 : decode cL_law 1390 = .ok (.invokevirtual 181, 3) := by decide +kernel
theorem dL_law_1393 : decode cL_law 1393 = .ok (.istore 6, 2) := by decide +kernel
theorem dL_law_1395 : decode cL_law 1395 = .ok (.aload_n 2, 1) := by decide +kernel
theorem dL_law_1396 : decode cL_law 1396 = .ok (.invokevirtual 102, 3) := by decide +kernel
theorem dL_law_1399 : decode cL_law 1399 = .ok (.iload 5, 2) := by decide +kernel
theorem dL_law_1401 : decode cL_law 1401 = .ok (.if_icmp .eq 5, 3) := by decide +kernel
theorem dL_law_1404 : decode cL_law 1404 = .ok (.iconst 0, 1) := by decide +kernel
theorem dL_law_1405 : decode cL_law 1405 = .ok (.ireturn, 1) := by decide +kernel
theorem dL_law_1406 : decode cL_law 1406 = .ok (.iload 5, 2) := by decide +kernel
theorem dL_law_1408 : decode cL_law 1408 = .ok (.ifCond .ne 15, 3) := by decide +kernel
theorem dL_law_1411 : decode cL_law 1411 = .ok (.aload_n 3, 1) := by decide +kernel
theorem dL_law_1412 : decode cL_law 1412 = .ok (.iconst 0, 1) := by decide +kernel
theorem dL_law_1413 : decode cL_law 1413 = .ok (.laload, 1) := by decide +kernel
theorem dL_law_1414 : decode cL_law 1414 = .ok (.iload 6, 2) := by decide +kernel
theorem dL_law_1416 : decode cL_law 1416 = .ok (.i2l, 1) := by decide +kernel
theorem dL_law_1417 : decode cL_law 1417 = .ok (.lcmp, 1) := by decide +kernel
theorem dL_law_1418 : decode cL_law 1418 = .ok (.ifCond .eq 5, 3) := by decide +kernel
theorem dL_law_1421 : decode cL_law 1421 = .ok (.iconst 0, 1) := by decide +kernel
theorem dL_law_1422 : decode cL_law 1422 = .ok (.ireturn, 1) := by decide +kernel
theorem dL_law_1423 : decode cL_law 1423 = .ok (.goto 553, 3) := by decide +kernel
theorem dL_law_1426 : decode cL_law 1426 = .ok (.aload_n 1, 1) := by decide +kernel
theorem dL_law_1427 : decode cL_law 1427 = .ok (.aload_n 0, 1) := by decide +kernel
theorem dL_law_1428 : decode cL_law 1428 = .ok (.iload 4, 2) := by decide +kernel
theorem dL_law_1430 : decode cL_law 1430 = .ok (.iconst 1, 1) := by decide +kernel
theorem dL_law_1431 : decode cL_law 1431 = .ok (.iadd, 1) := by decide +kernel
theorem dL_law_1432 : decode cL_law 1432 = .ok (.iaload, 1) := by decide +kernel
theorem dL_law_1433 : decode cL_law 1433 = .ok (.aload_n 3, 1) := by decide +kernel
theorem dL_law_1434 : decode cL_law 1434 = .ok (.invokestatic 182, 3) := by decide +kernel
theorem dL_law_1437 : decode cL_law 1437 = .ok (.istore 5, 2) := by decide +kernel
theorem dL_law_1439 : decode cL_law 1439 = .ok (.aload_n 2, 1) := by decide +kernel
theorem dL_law_1440 : decode cL_law 1440 = .ok (.aload_n 0, 1) := by decide +kernel
theorem dL_law_1441 : decode cL_law 1441 = .ok (.iload 4, 2) := by decide +kernel
theorem dL_law_1443 : decode cL_law 1443 = .ok (.iconst 1, 1) := by decide +kernel
theorem dL_law_1444 : decode cL_law 1444 = .ok (.iadd, 1) := by decide +kernel
theorem dL_law_1445 : decode cL_law 1445 = .ok (.iaload, 1) := by decide +kernel
theorem dL_law_1446 : decode cL_law 1446 = .ok (.invokevirtual 184, 3) := by decide +kernel
theorem dL_law_1449 : decode cL_law 1449 = .ok (.istore 6, 2) := by decide +kernel
theorem dL_law_1451 : decode cL_law 1451 = .ok (.aload_n 2, 1) := by decide +kernel
theorem dL_law_1452 : decode cL_law 1452 = .ok (.invokevirtual 102, 3) := by decide +kernel
theorem dL_law_1455 : decode cL_law 1455 = .ok (.iload 5, 2) := by decide +kernel
theorem dL_law_1457 : decode cL_law 1457 = .ok (.if_icmp .eq 5, 3) := by decide +kernel
theorem dL_law_1460 : decode cL_law 1460 = .ok (.iconst 0, 1) := by decide +kernel
theorem dL_law_1461 : decode cL_law 1461 = .ok (.ireturn, 1) := by decide +kernel
theorem dL_law_1462 : decode cL_law 1462 = .ok (.iload 5, 2) := by decide +kernel
theorem dL_law_1464 : decode cL_law 1464 = .ok (.ifCond .ne 15, 3) := by decide +kernel
