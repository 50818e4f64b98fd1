theorem mw_1205 : (Cond.methodLink RL 161 yX11_forget) ∈ gx_G := gx_mem 1205 (by decide +kernel) (by decide +kernel)
theorem mw_1206 : (Cond.instanceMethod yX11_forget) ∈ gx_G := gx_mem 1206 (by decide +kernel) (by decide +kernel)
theorem mw_1207 : (Cond.selects RX11 yX11_forget yX11_forget) ∈ gx_G := gx_mem 1207 (by decide +kernel) (by decide +kernel)
theorem mw_1208 : (Cond.code yX11_forget cX11_forget 2 (some .int)) ∈ gx_G := gx_mem 1208 (by decide +kernel) (by decide +kernel)
theorem mw_1209 : (Cond.methodLink RL 165 yX11_maps) ∈ gx_G := gx_mem 1209 (by decide +kernel) (by decide +kernel)
theorem mw_1210 : (Cond.instanceMethod yX11_maps) ∈ gx_G := gx_mem 1210 (by decide +kernel) (by decide +kernel)
theorem mw_1211 : (Cond.selects RX11 yX11_maps yX11_maps) ∈ gx_G := gx_mem 1211 (by decide +kernel) (by decide +kernel)
theorem mw_1212 : (Cond.code yX11_maps cX11_maps 7 (some .int)) ∈ gx_G := gx_mem 1212 (by decide +kernel) (by decide +kernel)
theorem mw_1249 : (Cond.methodLink RL 169 yX11_next) ∈ gx_G := gx_mem 1249 (by decide +kernel) (by decide +kernel)
theorem mw_1250 : (Cond.instanceMethod yX11_next) ∈ gx_G := gx_mem 1250 (by decide +kernel) (by decide +kernel)
theorem mw_1251 : (Cond.selects RX11 yX11_next yX11_next) ∈ gx_G := gx_mem 1251 (by decide +kernel) (by decide +kernel)
theorem mw_1252 : (Cond.code yX11_next cX11_next 6 (some .int)) ∈ gx_G := gx_mem 1252 (by decide +kernel) (by decide +kernel)
theorem mw_1265 : (Cond.methodLink RL 173 yX11_odds) ∈ gx_G := gx_mem 1265 (by decide +kernel) (by decide +kernel)
theorem mw_1266 : (Cond.instanceMethod yX11_odds) ∈ gx_G := gx_mem 1266 (by decide +kernel) (by decide +kernel)
theorem mw_1267 : (Cond.selects RX11 yX11_odds yX11_odds) ∈ gx_G := gx_mem 1267 (by decide +kernel) (by decide +kernel)
theorem mw_1268 : (Cond.code yX11_odds cX11_odds 10 (some .int)) ∈ gx_G := gx_mem 1268 (by decide +kernel) (by decide +kernel)
theorem mw_1275 : (Cond.methodLink RL 177 yX11_marks) ∈ gx_G := gx_mem 1275 (by decide +kernel) (by decide +kernel)
theorem mw_1276 : (Cond.instanceMethod yX11_marks) ∈ gx_G := gx_mem 1276 (by decide +kernel) (by decide +kernel)
theorem mw_1277 : (Cond.selects RX11 yX11_marks yX11_marks) ∈ gx_G := gx_mem 1277 (by decide +kernel) (by decide +kernel)
theorem mw_1278 : (Cond.code yX11_marks cX11_marks 10 (some .int)) ∈ gx_G := gx_mem 1278 (by decide +kernel) (by decide +kernel)
theorem mw_1279 : (Cond.methodLink RL 181 yX11_order) ∈ gx_G := gx_mem 1279 (by decide +kernel) (by decide +kernel)
theorem mw_1280 : (Cond.instanceMethod yX11_order) ∈ gx_G := gx_mem 1280 (by decide +kernel) (by decide +kernel)
theorem mw_1281 : (Cond.selects RX11 yX11_order yX11_order) ∈ gx_G := gx_mem 1281 (by decide +kernel) (by decide +kernel)
theorem mw_1282 : (Cond.code yX11_order cX11_order 7 (some .int)) ∈ gx_G := gx_mem 1282 (by decide +kernel) (by decide +kernel)
theorem mw_2048 : (Cond.methodLink RL 164 yX12_forget) ∈ gx_G := gx_mem 2048 (by decide +kernel) (by decide +kernel)
theorem mw_2049 : (Cond.instanceMethod yX12_forget) ∈ gx_G := gx_mem 2049 (by decide +kernel) (by decide +kernel)
theorem mw_2050 : (Cond.selects RX12 yX12_forget yX12_forget) ∈ gx_G := gx_mem 2050 (by decide +kernel) (by decide +kernel)
theorem mw_2051 : (Cond.code yX12_forget cX12_forget 2 (some .int)) ∈ gx_G := gx_mem 2051 (by decide +kernel) (by decide +kernel)
theorem mw_2052 : (Cond.methodLink RL 168 yX12_maps) ∈ gx_G := gx_mem 2052 (by decide +kernel) (by decide +kernel)
theorem mw_2053 : (Cond.instanceMethod yX12_maps) ∈ gx_G := gx_mem 2053 (by decide +kernel) (by decide +kernel)
theorem mw_2054 : (Cond.selects RX12 yX12_maps yX12_maps) ∈ gx_G := gx_mem 2054 (by decide +kernel) (by decide +kernel)
theorem mw_2055 : (Cond.code yX12_maps cX12_maps 7 (some .int)) ∈ gx_G := gx_mem 2055 (by decide +kernel) (by decide +kernel)
theorem mw_2064 : (Cond.methodLink RL 172 yX12_next) ∈ gx_G := gx_mem 2064 (by decide +kernel) (by decide +kernel)
theorem mw_2065 : (Cond.instanceMethod yX12_next) ∈ gx_G := gx_mem 2065 (by decide +kernel) (by decide +kernel)
theorem mw_2066 : (Cond.selects RX12 yX12_next yX12_next) ∈ gx_G := gx_mem 2066 (by decide +kernel) (by decide +kernel)
theorem mw_2067 : (Cond.code yX12_next cX12_next 8 (some .int)) ∈ gx_G := gx_mem 2067 (by decide +kernel) (by decide +kernel)
theorem mw_2068 : (Cond.methodLink RL 176 yX12_odds) ∈ gx_G := gx_mem 2068 (by decide +kernel) (by decide +kernel)
theorem mw_2069 : (Cond.instanceMethod yX12_odds) ∈ gx_G := gx_mem 2069 (by decide +kernel) (by decide +kernel)
theorem mw_2070 : (Cond.selects RX12 yX12_odds yX12_odds) ∈ gx_G := gx_mem 2070 (by decide +kernel) (by decide +kernel)
theorem mw_2071 : (Cond.code yX12_odds cX12_odds 13 (some .int)) ∈ gx_G := gx_mem 2071 (by decide +kernel) (by decide +kernel)
theorem mw_2081 : (Cond.methodLink RL 180 yX12_marks) ∈ gx_G := gx_mem 2081 (by decide +kernel) (by decide +kernel)
theorem mw_2082 : (Cond.instanceMethod yX12_marks) ∈ gx_G := gx_mem 2082 (by decide +kernel) (by decide +kernel)
theorem mw_2083 : (Cond.selects RX12 yX12_marks yX12_marks) ∈ gx_G := gx_mem 2083 (by decide +kernel) (by decide +kernel)
theorem mw_2084 : (Cond.code yX12_marks cX12_marks 10 (some .int)) ∈ gx_G := gx_mem 2084 (by decide +kernel) (by decide +kernel)
theorem mw_2086 : (Cond.methodLink RL 184 yX12_order) ∈ gx_G := gx_mem 2086 (by decide +kernel) (by decide +kernel)
theorem mw_2087 : (Cond.instanceMethod yX12_order) ∈ gx_G := gx_mem 2087 (by decide +kernel) (by decide +kernel)
theorem mw_2088 : (Cond.selects RX12 yX12_order yX12_order) ∈ gx_G := gx_mem 2088 (by decide +kernel) (by decide +kernel)
theorem mw_2089 : (Cond.code yX12_order cX12_order 10 (some .int)) ∈ gx_G := gx_mem 2089 (by decide +kernel) (by decide +kernel)
theorem cw_L_161 : gx_Wv RL 161 yX11_forget cX11_forget 2 (some .int) 0 := ⟨⟨mw_1205, mw_1206, mw_1207, mw_89, mw_1208⟩, by decide +kernel⟩
theorem cw_L_164 : gx_Wv RL 164 yX12_forget cX12_forget 2 (some .int) 0 := ⟨⟨mw_2048, mw_2049, mw_2050, mw_101, mw_2051⟩, by decide +kernel⟩
theorem cw_L_165 : gx_Wv RL 165 yX11_maps cX11_maps 7 (some .int) 0 := ⟨⟨mw_1209, mw_1210, mw_1211, mw_89, mw_1212⟩, by decide +kernel⟩
theorem cw_L_168 : gx_Wv RL 168 yX12_maps cX12_maps 7 (some .int) 0 := ⟨⟨mw_2052, mw_2053, mw_2054, mw_101, mw_2055⟩, by decide +kernel⟩
theorem cw_L_169 : gx_Wv RL 169 yX11_next cX11_next 6 (some .int) 1 := ⟨⟨mw_1249, mw_1250, mw_1251, mw_89, mw_1252⟩, by decide +kernel⟩
theorem cw_L_172 : gx_Wv RL 172 yX12_next cX12_next 8 (some .int) 1 := ⟨⟨mw_2064, mw_2065, mw_2066, mw_101, mw_2067⟩, by decide +kernel⟩
theorem cw_L_173 : gx_Wv RL 173 yX11_odds cX11_odds 10 (some .int) 3 := ⟨⟨mw_1265, mw_1266, mw_1267, mw_89, mw_1268⟩, by decide +kernel⟩
theorem cw_L_176 : gx_Wv RL 176 yX12_odds cX12_odds 13 (some .int) 3 := ⟨⟨mw_2068, mw_2069, mw_2070, mw_101, mw_2071⟩, by decide +kernel⟩
theorem cw_L_177 : gx_Wv RL 177 yX11_marks cX11_marks 10 (some .int) 3 := ⟨⟨mw_1275, mw_1276, mw_1277, mw_89, mw_1278⟩, by decide +kernel⟩
theorem cw_L_180 : gx_Wv RL 180 yX12_marks cX12_marks 10 (some .int) 3 := ⟨⟨mw_2081, mw_2082, mw_2083, mw_101, mw_2084⟩, by decide +kernel⟩
theorem cw_L_181 : gx_Wv RL 181 yX11_order cX11_order 7 (some .int) 2 := ⟨⟨mw_1279, mw_1280, mw_1281, mw_89, mw_1282⟩, by decide +kernel⟩
theorem cw_L_184 : gx_Wv RL 184 yX12_order cX12_order 10 (some .int) 2 := ⟨⟨mw_2086, mw_2087, mw_2088, mw_101, mw_2089⟩, by decide +kernel⟩
theorem dL_law_1429 : decode cL_law 1429 = .ok (.aload_n 1, 1) := by decide +kernel
theorem dL_law_1430 : decode cL_law 1430 = .ok (.invokevirtual 161, 3) := by decide +kernel
theorem dL_law_1433 : decode cL_law 1433 = .ok (.aload_n 2, 1) := by decide +kernel
theorem dL_law_1434 : decode cL_law 1434 = .ok (.invokevirtual 164, 3) := by decide +kernel
theorem dL_law_1437 : decode cL_law 1437 = .ok (.if_icmp .eq 308, 3) := by decide +kernel
theorem dL_law_1442 : decode cL_law 1442 = .ok (.aload_n 1, 1) := by decide +kernel
theorem dL_law_1443 : decode cL_law 1443 = .ok (.invokevirtual 165, 3) := by decide +kernel
theorem dL_law_1446 : decode cL_law 1446 = .ok (.aload_n 2, 1) := by decide +kernel
theorem dL_law_1447 : decode cL_law 1447 = .ok (.invokevirtual 168, 3) := by decide +kernel
theorem dL_law_1450 : decode cL_law 1450 = .ok (.if_icmp .eq 295, 3) := by decide +kernel
theorem dL_law_1455 : decode cL_law 1455 = .ok (.aload_n 1, 1) := by decide +kernel
theorem dL_law_1456 : decode cL_law 1456 = .ok (.aload_n 0, 1) := by decide +kernel
theorem dL_law_1457 : decode cL_law 1457 = .ok (.iload 4, 2) := by decide +kernel
theorem dL_law_1459 : decode cL_law 1459 = .ok (.iconst 1, 1) := by decide +kernel
theorem dL_law_1460 : decode cL_law 1460 = .ok (.iadd, 1) := by decide +kernel
theorem dL_law_1461 : decode cL_law 1461 = .ok (.iaload, 1) := by decide +kernel
theorem dL_law_1462 : decode cL_law 1462 = .ok (.invokevirtual 169, 3) := by decide +kernel
theorem dL_law_1465 : decode cL_law 1465 = .ok (.aload_n 2, 1) := by decide +kernel
theorem dL_law_1466 : decode cL_law 1466 = .ok (.aload_n 0, 1) := by decide +kernel
theorem dL_law_1467 : decode cL_law 1467 = .ok (.iload 4, 2) := by decide +kernel
theorem dL_law_1469 : decode cL_law 1469 = .ok (.iconst 1, 1) := by decide +kernel
theorem dL_law_1470 : decode cL_law 1470 = .ok (.iadd, 1) := by decide +kernel
theorem dL_law_1471 : decode cL_law 1471 = .ok (.iaload, 1) := by decide +kernel
theorem dL_law_1472 : decode cL_law 1472 = .ok (.invokevirtual 172, 3) := by decide +kernel
theorem dL_law_1475 : decode cL_law 1475 = .ok (.if_icmp .eq 270, 3) := by decide +kernel
theorem dL_law_1480 : decode cL_law 1480 = .ok (.aload_n 1, 1) := by decide +kernel
theorem dL_law_1481 : decode cL_law 1481 = .ok (.aload_n 0, 1) := by decide +kernel
theorem dL_law_1482 : decode cL_law 1482 = .ok (.iload 4, 2) := by decide +kernel
theorem dL_law_1484 : decode cL_law 1484 = .ok (.iconst 1, 1) := by decide +kernel
theorem dL_law_1485 : decode cL_law 1485 = .ok (.iadd, 1) := by decide +kernel
theorem dL_law_1486 : decode cL_law 1486 = .ok (.iaload, 1) := by decide +kernel
theorem dL_law_1487 : decode cL_law 1487 = .ok (.aload_n 0, 1) := by decide +kernel
theorem dL_law_1488 : decode cL_law 1488 = .ok (.iload 4, 2) := by decide +kernel
theorem dL_law_1490 : decode cL_law 1490 = .ok (.iconst 2, 1) := by decide +kernel
theorem dL_law_1491 : decode cL_law 1491 = .ok (.iadd, 1) := by decide +kernel
theorem dL_law_1492 : decode cL_law 1492 = .ok (.iaload, 1) := by decide +kernel
theorem dL_law_1493 : decode cL_law 1493 = .ok (.aload_n 0, 1) := by decide +kernel
theorem dL_law_1494 : decode cL_law 1494 = .ok (.iload 4, 2) := by decide +kernel
theorem dL_law_1496 : decode cL_law 1496 = .ok (.iconst 3, 1) := by decide +kernel
theorem dL_law_1497 : decode cL_law 1497 = .ok (.iadd, 1) := by decide +kernel
theorem dL_law_1498 : decode cL_law 1498 = .ok (.iaload, 1) := by decide +kernel
theorem dL_law_1499 : decode cL_law 1499 = .ok (.invokevirtual 173, 3) := by decide +kernel
theorem dL_law_1502 : decode cL_law 1502 = .ok (.aload_n 2, 1) := by decide +kernel
theorem dL_law_1503 : decode cL_law 1503 = .ok (.aload_n 0, 1) := by decide +kernel
theorem dL_law_1504 : decode cL_law 1504 = .ok (.iload 4, 2) := by decide +kernel
theorem dL_law_1506 : decode cL_law 1506 = .ok (.iconst 1, 1) := by decide +kernel
theorem dL_law_1507 : decode cL_law 1507 = .ok (.iadd, 1) := by decide +kernel
theorem dL_law_1508 : decode cL_law 1508 = .ok (.iaload, 1) := by decide +kernel
theorem dL_law_1509 : decode cL_law 1509 = .ok (.aload_n 0, 1) := by decide +kernel
theorem dL_law_1510 : decode cL_law 1510 = .ok (.iload 4, 2) := by decide +kernel
theorem dL_law_1512 : decode cL_law 1512 = .ok (.iconst 2, 1) := by decide +kernel
theorem dL_law_1513 : decode cL_law 1513 = .ok (.iadd, 1) := by decide +kernel
theorem dL_law_1514 : decode cL_law 1514 = .ok (.iaload, 1) := by decide +kernel
theorem dL_law_1515 : decode cL_law 1515 = .ok (.aload_n 0, 1) := by decide +kernel
theorem dL_law_1516 : decode cL_law 1516 = .ok (.iload 4, 2) := by decide +kernel
theorem dL_law_1518 : decode cL_law 1518 = .ok (.iconst 3, 1) := by decide +kernel
theorem dL_law_1519 : decode cL_law 1519 = .ok (.iadd, 1) := by decide +kernel
theorem dL_law_1520 : decode cL_law 1520 = .ok (.iaload, 1) := by decide +kernel
theorem dL_law_1521 : decode cL_law 1521 = .ok (.invokevirtual 176, 3) := by decide +kernel
theorem dL_law_1524 : decode cL_law 1524 = .ok (.if_icmp .eq 221, 3) := by decide +kernel
theorem dL_law_1529 : decode cL_law 1529 = .ok (.aload_n 1, 1) := by decide +kernel
theorem dL_law_1530 : decode cL_law 1530 = .ok (.aload_n 0, 1) := by decide +kernel
theorem dL_law_1531 : decode cL_law 1531 = .ok (.iload 4, 2) := by decide +kernel
theorem dL_law_1533 : decode cL_law 1533 = .ok (.iconst 1, 1) := by decide +kernel
theorem dL_law_1534 : decode cL_law 1534 = .ok (.iadd, 1) := by decide +kernel
theorem dL_law_1535 : decode cL_law 1535 = .ok (.iaload, 1) := by decide +kernel
theorem dL_law_1536 : decode cL_law 1536 = .ok (.aload_n 0, 1) := by decide +kernel
theorem dL_law_1537 : decode cL_law 1537 = .ok (.iload 4, 2) := by decide +kernel
theorem dL_law_1539 : decode cL_law 1539 = .ok (.iconst 2, 1) := by decide +kernel
theorem dL_law_1540 : decode cL_law 1540 = .ok (.iadd, 1) := by decide +kernel
theorem dL_law_1541 : decode cL_law 1541 = .ok (.iaload, 1) := by decide +kernel
theorem dL_law_1542 : decode cL_law 1542 = .ok (.aload_n 0, 1) := by decide +kernel
theorem dL_law_1543 : decode cL_law 1543 = .ok (.iload 4, 2) := by decide +kernel
theorem dL_law_1545 : decode cL_law 1545 = .ok (.iconst 3, 1) := by decide +kernel
theorem dL_law_1546 : decode cL_law 1546 = .ok (.iadd, 1) := by decide +kernel
theorem dL_law_1547 : decode cL_law 1547 = .ok (.iaload, 1) := by decide +kernel
theorem dL_law_1548 : decode cL_law 1548 = .ok (.invokevirtual 177, 3) := by decide +kernel
theorem dL_law_1551 : decode cL_law 1551 = .ok (.aload_n 2, 1) := by decide +kernel
theorem dL_law_1552 : decode cL_law 1552 = .ok (.aload_n 0, 1) := by decide +kernel
theorem dL_law_1553 : decode cL_law 1553 = .ok (.iload 4, 2) := by decide +kernel
theorem dL_law_1555 : decode cL_law 1555 = .ok (.iconst 1, 1) := by decide +kernel
theorem dL_law_1556 : decode cL_law 1556 = .ok (.iadd, 1) := by decide +kernel
theorem dL_law_1557 : decode cL_law 1557 = .ok (.iaload, 1) := by decide +kernel
theorem dL_law_1558 : decode cL_law 1558 = .ok (.aload_n 0, 1) := by decide +kernel
theorem dL_law_1559 : decode cL_law 1559 = .ok (.iload 4, 2) := by decide +kernel
theorem dL_law_1561 : decode cL_law 1561 = .ok (.iconst 2, 1) := by decide +kernel
theorem dL_law_1562 : decode cL_law 1562 = .ok (.iadd, 1) := by decide +kernel
theorem dL_law_1563 : decode cL_law 1563 = .ok (.iaload, 1) := by decide +kernel
theorem dL_law_1564 : decode cL_law 1564 = .ok (.aload_n 0, 1) := by decide +kernel
theorem dL_law_1565 : decode cL_law 1565 = .ok (.iload 4, 2) := by decide +kernel
theorem dL_law_1567 : decode cL_law 1567 = .ok (.iconst 3, 1) := by decide +kernel
theorem dL_law_1568 : decode cL_law 1568 = .ok (.iadd, 1) := by decide +kernel
theorem dL_law_1569 : decode cL_law 1569 = .ok (.iaload, 1) := by decide +kernel
theorem dL_law_1570 : decode cL_law 1570 = .ok (.invokevirtual 180, 3) := by decide +kernel
theorem dL_law_1573 : decode cL_law 1573 = .ok (.if_icmp .eq 172, 3) := by decide +kernel
theorem dL_law_1578 : decode cL_law 1578 = .ok (.aload_n 1, 1) := by decide +kernel
theorem dL_law_1579 : decode cL_law 1579 = .ok (.aload_n 0, 1) := by decide +kernel
theorem dL_law_1580 : decode cL_law 1580 = .ok (.iload 4, 2) := by decide +kernel
theorem dL_law_1582 : decode cL_law 1582 = .ok (.iconst 1, 1) := by decide +kernel
theorem dL_law_1583 : decode cL_law 1583 = .ok (.iadd, 1) := by decide +kernel
theorem dL_law_1584 : decode cL_law 1584 = .ok (.iaload, 1) := by decide +kernel
theorem dL_law_1585 : decode cL_law 1585 = .ok (.aload_n 0, 1) := by decide +kernel
theorem dL_law_1586 : decode cL_law 1586 = .ok (.iload 4, 2) := by decide +kernel
theorem dL_law_1588 : decode cL_law 1588 = .ok (.iconst 2, 1) := by decide +kernel
theorem dL_law_1589 : decode cL_law 1589 = .ok (.iadd, 1) := by decide +kernel
theorem dL_law_1590 : decode cL_law 1590 = .ok (.iaload, 1) := by decide +kernel
theorem dL_law_1591 : decode cL_law 1591 = .ok (.invokevirtual 181, 3) := by decide +kernel
theorem dL_law_1594 : decode cL_law 1594 = .ok (.aload_n 2, 1) := by decide +kernel
theorem dL_law_1595 : decode cL_law 1595 = .ok (.aload_n 0, 1) := by decide +kernel
theorem dL_law_1596 : decode cL_law 1596 = .ok (.iload 4, 2) := by decide +kernel
theorem dL_law_1598 : decode cL_law 1598 = .ok (.iconst 1, 1) := by decide +kernel
theorem dL_law_1599 : decode cL_law 1599 = .ok (.iadd, 1) := by decide +kernel
theorem dL_law_1600 : decode cL_law 1600 = .ok (.iaload, 1) := by decide +kernel
theorem dL_law_1601 : decode cL_law 1601 = .ok (.aload_n 0, 1) := by decide +kernel
theorem dL_law_1602 : decode cL_law 1602 = .ok (.iload 4, 2) := by decide +kernel
theorem dL_law_1604 : decode cL_law 1604 = .ok (.iconst 2, 1) := by decide +kernel
theorem dL_law_1605 : decode cL_law 1605 = .ok (.iadd, 1) := by decide +kernel
theorem dL_law_1606 : decode cL_law 1606 = .ok (.iaload, 1) := by decide +kernel
theorem dL_law_1607 : decode cL_law 1607 = .ok (.invokevirtual 184, 3) := by decide +kernel
theorem dL_law_1610 : decode cL_law 1610 = .ok (.if_icmp .eq 135, 3) := by decide +kernel
