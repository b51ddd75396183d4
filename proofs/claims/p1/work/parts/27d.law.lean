theorem dL_law_1477 : decode cL_law 1477 = .ok (.aload_n 1, 1) := by decide +kernel
theorem dL_law_1478 : decode cL_law 1478 = .ok (.aload_n 0, 1) := by decide +kernel
theorem dL_law_1479 : decode cL_law 1479 = .ok (.iload_n 3, 1) := by decide +kernel
theorem dL_law_1480 : decode cL_law 1480 = .ok (.iconst 1, 1) := by decide +kernel
theorem dL_law_1481 : decode cL_law 1481 = .ok (.iadd, 1) := by decide +kernel
theorem dL_law_1482 : decode cL_law 1482 = .ok (.iaload, 1) := by decide +kernel
theorem dL_law_1483 : decode cL_law 1483 = .ok (.invokevirtual 163, 3) := by decide +kernel
theorem mw_1409 : Cond.methodLink RL 163 yX11_odds ∈ wsL_law := inr_59 _ (List.mem_of_getElem? (i := 17) rfl)
theorem mw_1412 : Cond.code yX11_odds cX11_odds 2 (some .boolean) ∈ wsL_law := inr_59 _ (List.mem_of_getElem? (i := 20) rfl)
theorem yk_X11_odds : xY yX11_odds RX11 cX11_odds 2 (some .boolean) 1 := ⟨⟨rfl, by decide +kernel, by decide +kernel, by decide +kernel⟩, mw_2, mw_1412⟩
theorem mw_1410 : Cond.instanceMethod yX11_odds ∈ wsL_law := inr_59 _ (List.mem_of_getElem? (i := 18) rfl)
theorem mw_1411 : Cond.selects RX11 yX11_odds yX11_odds ∈ wsL_law := inr_59 _ (List.mem_of_getElem? (i := 19) rfl)
theorem dL_law_1486 : decode cL_law 1486 = .ok (.aload_n 2, 1) := by decide +kernel
theorem dL_law_1487 : decode cL_law 1487 = .ok (.aload_n 0, 1) := by decide +kernel
theorem dL_law_1488 : decode cL_law 1488 = .ok (.iload_n 3, 1) := by decide +kernel
theorem dL_law_1489 : decode cL_law 1489 = .ok (.iconst 1, 1) := by decide +kernel
theorem dL_law_1490 : decode cL_law 1490 = .ok (.iadd, 1) := by decide +kernel
theorem dL_law_1491 : decode cL_law 1491 = .ok (.iaload, 1) := by decide +kernel
theorem dL_law_1492 : decode cL_law 1492 = .ok (.invokevirtual 166, 3) := by decide +kernel
theorem mw_1421 : Cond.methodLink RL 166 yX12_odds ∈ wsL_law := inr_60 _ (List.mem_of_getElem? (i := 5) rfl)
theorem mw_1424 : Cond.code yX12_odds cX12_odds 12 (some .boolean) ∈ wsL_law := inr_60 _ (List.mem_of_getElem? (i := 8) rfl)
theorem yk_X12_odds : xY yX12_odds RX12 cX12_odds 12 (some .boolean) 1 := ⟨⟨rfl, by decide +kernel, by decide +kernel, by decide +kernel⟩, mw_5, mw_1424⟩
theorem mw_1422 : Cond.instanceMethod yX12_odds ∈ wsL_law := inr_60 _ (List.mem_of_getElem? (i := 6) rfl)
theorem mw_1423 : Cond.selects RX12 yX12_odds yX12_odds ∈ wsL_law := inr_60 _ (List.mem_of_getElem? (i := 7) rfl)
theorem dL_law_1495 : decode cL_law 1495 = .ok (.if_icmp .eq 268, 3) := by decide +kernel
theorem dL_law_1500 : decode cL_law 1500 = .ok (.aload_n 1, 1) := by decide +kernel
theorem dL_law_1501 : decode cL_law 1501 = .ok (.aload_n 0, 1) := by decide +kernel
theorem dL_law_1502 : decode cL_law 1502 = .ok (.iload_n 3, 1) := by decide +kernel
theorem dL_law_1503 : decode cL_law 1503 = .ok (.iconst 1, 1) := by decide +kernel
theorem dL_law_1504 : decode cL_law 1504 = .ok (.iadd, 1) := by decide +kernel
theorem dL_law_1505 : decode cL_law 1505 = .ok (.iaload, 1) := by decide +kernel
theorem dL_law_1506 : decode cL_law 1506 = .ok (.invokevirtual 167, 3) := by decide +kernel
theorem mw_1425 : Cond.methodLink RL 167 yX11_claim ∈ wsL_law := inr_60 _ (List.mem_of_getElem? (i := 9) rfl)
theorem mw_1428 : Cond.code yX11_claim cX11_claim 2 (some .int) ∈ wsL_law := inr_60 _ (List.mem_of_getElem? (i := 12) rfl)
theorem yk_X11_claim : xY yX11_claim RX11 cX11_claim 2 (some .int) 1 := ⟨⟨rfl, by decide +kernel, by decide +kernel, by decide +kernel⟩, mw_2, mw_1428⟩
theorem mw_1426 : Cond.instanceMethod yX11_claim ∈ wsL_law := inr_60 _ (List.mem_of_getElem? (i := 10) rfl)
theorem mw_1427 : Cond.selects RX11 yX11_claim yX11_claim ∈ wsL_law := inr_60 _ (List.mem_of_getElem? (i := 11) rfl)
theorem dL_law_1509 : decode cL_law 1509 = .ok (.aload_n 2, 1) := by decide +kernel
theorem dL_law_1510 : decode cL_law 1510 = .ok (.aload_n 0, 1) := by decide +kernel
theorem dL_law_1511 : decode cL_law 1511 = .ok (.iload_n 3, 1) := by decide +kernel
theorem dL_law_1512 : decode cL_law 1512 = .ok (.iconst 1, 1) := by decide +kernel
theorem dL_law_1513 : decode cL_law 1513 = .ok (.iadd, 1) := by decide +kernel
theorem dL_law_1514 : decode cL_law 1514 = .ok (.iaload, 1) := by decide +kernel
theorem dL_law_1515 : decode cL_law 1515 = .ok (.invokevirtual 170, 3) := by decide +kernel
theorem mw_1438 : Cond.methodLink RL 170 yX12_claim ∈ wsL_law := inr_60 _ (List.mem_of_getElem? (i := 22) rfl)
theorem mw_1441 : Cond.code yX12_claim cX12_claim 3 (some .int) ∈ wsL_law := inr_61 _ (List.mem_of_getElem? (i := 1) rfl)
theorem yk_X12_claim : xY yX12_claim RX12 cX12_claim 3 (some .int) 1 := ⟨⟨rfl, by decide +kernel, by decide +kernel, by decide +kernel⟩, mw_5, mw_1441⟩
theorem mw_1439 : Cond.instanceMethod yX12_claim ∈ wsL_law := inr_60 _ (List.mem_of_getElem? (i := 23) rfl)
theorem mw_1440 : Cond.selects RX12 yX12_claim yX12_claim ∈ wsL_law := inr_61 _ (List.mem_of_getElem? (i := 0) rfl)
theorem dL_law_1518 : decode cL_law 1518 = .ok (.if_icmp .eq 245, 3) := by decide +kernel
theorem dL_law_1523 : decode cL_law 1523 = .ok (.aload_n 1, 1) := by decide +kernel
theorem dL_law_1524 : decode cL_law 1524 = .ok (.aload_n 0, 1) := by decide +kernel
theorem dL_law_1525 : decode cL_law 1525 = .ok (.iload_n 3, 1) := by decide +kernel
theorem dL_law_1526 : decode cL_law 1526 = .ok (.iconst 1, 1) := by decide +kernel
theorem dL_law_1527 : decode cL_law 1527 = .ok (.iadd, 1) := by decide +kernel
theorem dL_law_1528 : decode cL_law 1528 = .ok (.iaload, 1) := by decide +kernel
theorem dL_law_1529 : decode cL_law 1529 = .ok (.aload_n 0, 1) := by decide +kernel
theorem dL_law_1530 : decode cL_law 1530 = .ok (.iload_n 3, 1) := by decide +kernel
theorem dL_law_1531 : decode cL_law 1531 = .ok (.iconst 2, 1) := by decide +kernel
theorem dL_law_1532 : decode cL_law 1532 = .ok (.iadd, 1) := by decide +kernel
theorem dL_law_1533 : decode cL_law 1533 = .ok (.iaload, 1) := by decide +kernel
theorem dL_law_1534 : decode cL_law 1534 = .ok (.aload_n 0, 1) := by decide +kernel
theorem dL_law_1535 : decode cL_law 1535 = .ok (.iload_n 3, 1) := by decide +kernel
theorem dL_law_1536 : decode cL_law 1536 = .ok (.iconst 3, 1) := by decide +kernel
theorem dL_law_1537 : decode cL_law 1537 = .ok (.iadd, 1) := by decide +kernel
theorem dL_law_1538 : decode cL_law 1538 = .ok (.iaload, 1) := by decide +kernel
theorem dL_law_1539 : decode cL_law 1539 = .ok (.invokevirtual 171, 3) := by decide +kernel
theorem mw_1446 : Cond.methodLink RL 171 yX11_least ∈ wsL_law := inr_61 _ (List.mem_of_getElem? (i := 6) rfl)
theorem mw_1449 : Cond.code yX11_least cX11_least 5 (some .int) ∈ wsL_law := inr_61 _ (List.mem_of_getElem? (i := 9) rfl)
theorem yk_X11_least : xY yX11_least RX11 cX11_least 5 (some .int) 3 := ⟨⟨rfl, by decide +kernel, by decide +kernel, by decide +kernel⟩, mw_2, mw_1449⟩
theorem mw_1447 : Cond.instanceMethod yX11_least ∈ wsL_law := inr_61 _ (List.mem_of_getElem? (i := 7) rfl)
theorem mw_1448 : Cond.selects RX11 yX11_least yX11_least ∈ wsL_law := inr_61 _ (List.mem_of_getElem? (i := 8) rfl)
theorem dL_law_1542 : decode cL_law 1542 = .ok (.aload_n 2, 1) := by decide +kernel
theorem dL_law_1543 : decode cL_law 1543 = .ok (.aload_n 0, 1) := by decide +kernel
theorem dL_law_1544 : decode cL_law 1544 = .ok (.iload_n 3, 1) := by decide +kernel
theorem dL_law_1545 : decode cL_law 1545 = .ok (.iconst 1, 1) := by decide +kernel
theorem dL_law_1546 : decode cL_law 1546 = .ok (.iadd, 1) := by decide +kernel
theorem dL_law_1547 : decode cL_law 1547 = .ok (.iaload, 1) := by decide +kernel
theorem dL_law_1548 : decode cL_law 1548 = .ok (.aload_n 0, 1) := by decide +kernel
theorem dL_law_1549 : decode cL_law 1549 = .ok (.iload_n 3, 1) := by decide +kernel
theorem dL_law_1550 : decode cL_law 1550 = .ok (.iconst 2, 1) := by decide +kernel
theorem dL_law_1551 : decode cL_law 1551 = .ok (.iadd, 1) := by decide +kernel
theorem dL_law_1552 : decode cL_law 1552 = .ok (.iaload, 1) := by decide +kernel
theorem dL_law_1553 : decode cL_law 1553 = .ok (.aload_n 0, 1) := by decide +kernel
theorem dL_law_1554 : decode cL_law 1554 = .ok (.iload_n 3, 1) := by decide +kernel
theorem dL_law_1555 : decode cL_law 1555 = .ok (.iconst 3, 1) := by decide +kernel
theorem dL_law_1556 : decode cL_law 1556 = .ok (.iadd, 1) := by decide +kernel
theorem dL_law_1557 : decode cL_law 1557 = .ok (.iaload, 1) := by decide +kernel
theorem dL_law_1558 : decode cL_law 1558 = .ok (.invokevirtual 174, 3) := by decide +kernel
theorem mw_1466 : Cond.methodLink RL 174 yX12_least ∈ wsL_law := inr_62 _ (List.mem_of_getElem? (i := 2) rfl)
theorem mw_1469 : Cond.code yX12_least cX12_least 8 (some .int) ∈ wsL_law := inr_62 _ (List.mem_of_getElem? (i := 5) rfl)
theorem yk_X12_least : xY yX12_least RX12 cX12_least 8 (some .int) 3 := ⟨⟨rfl, by decide +kernel, by decide +kernel, by decide +kernel⟩, mw_5, mw_1469⟩
theorem mw_1467 : Cond.instanceMethod yX12_least ∈ wsL_law := inr_62 _ (List.mem_of_getElem? (i := 3) rfl)
theorem mw_1468 : Cond.selects RX12 yX12_least yX12_least ∈ wsL_law := inr_62 _ (List.mem_of_getElem? (i := 4) rfl)
theorem dL_law_1561 : decode cL_law 1561 = .ok (.if_icmp .eq 202, 3) := by decide +kernel
theorem dL_law_1566 : decode cL_law 1566 = .ok (.aload_n 1, 1) := by decide +kernel
theorem dL_law_1567 : decode cL_law 1567 = .ok (.invokevirtual 175, 3) := by decide +kernel
theorem mw_1477 : Cond.methodLink RL 175 yX11_leastSet ∈ wsL_law := inr_62 _ (List.mem_of_getElem? (i := 13) rfl)
theorem mw_1480 : Cond.code yX11_leastSet cX11_leastSet 1 (some .int) ∈ wsL_law := inr_62 _ (List.mem_of_getElem? (i := 16) rfl)
theorem yk_X11_leastSet : xY yX11_leastSet RX11 cX11_leastSet 1 (some .int) 0 := ⟨⟨rfl, by decide +kernel, by decide +kernel, by decide +kernel⟩, mw_2, mw_1480⟩
theorem mw_1478 : Cond.instanceMethod yX11_leastSet ∈ wsL_law := inr_62 _ (List.mem_of_getElem? (i := 14) rfl)
theorem mw_1479 : Cond.selects RX11 yX11_leastSet yX11_leastSet ∈ wsL_law := inr_62 _ (List.mem_of_getElem? (i := 15) rfl)
theorem dL_law_1570 : decode cL_law 1570 = .ok (.aload_n 2, 1) := by decide +kernel
theorem dL_law_1571 : decode cL_law 1571 = .ok (.invokevirtual 178, 3) := by decide +kernel
theorem mw_1482 : Cond.methodLink RL 178 yX12_leastSet ∈ wsL_law := inr_62 _ (List.mem_of_getElem? (i := 18) rfl)
theorem mw_1485 : Cond.code yX12_leastSet cX12_leastSet 1 (some .int) ∈ wsL_law := inr_62 _ (List.mem_of_getElem? (i := 21) rfl)
theorem yk_X12_leastSet : xY yX12_leastSet RX12 cX12_leastSet 1 (some .int) 0 := ⟨⟨rfl, by decide +kernel, by decide +kernel, by decide +kernel⟩, mw_5, mw_1485⟩
theorem mw_1483 : Cond.instanceMethod yX12_leastSet ∈ wsL_law := inr_62 _ (List.mem_of_getElem? (i := 19) rfl)
theorem mw_1484 : Cond.selects RX12 yX12_leastSet yX12_leastSet ∈ wsL_law := inr_62 _ (List.mem_of_getElem? (i := 20) rfl)
theorem dL_law_1574 : decode cL_law 1574 = .ok (.if_icmp .eq 189, 3) := by decide +kernel
theorem dL_law_1579 : decode cL_law 1579 = .ok (.aload_n 1, 1) := by decide +kernel
theorem dL_law_1580 : decode cL_law 1580 = .ok (.aload_n 0, 1) := by decide +kernel
theorem dL_law_1581 : decode cL_law 1581 = .ok (.iload_n 3, 1) := by decide +kernel
theorem dL_law_1582 : decode cL_law 1582 = .ok (.iconst 1, 1) := by decide +kernel
theorem dL_law_1583 : decode cL_law 1583 = .ok (.iadd, 1) := by decide +kernel
theorem dL_law_1584 : decode cL_law 1584 = .ok (.iaload, 1) := by decide +kernel
theorem dL_law_1585 : decode cL_law 1585 = .ok (.invokevirtual 179, 3) := by decide +kernel
theorem mw_1486 : Cond.methodLink RL 179 yX11_orders ∈ wsL_law := inr_62 _ (List.mem_of_getElem? (i := 22) rfl)
theorem mw_1489 : Cond.code yX11_orders cX11_orders 3 (some .int) ∈ wsL_law := inr_63 _ (List.mem_of_getElem? (i := 1) rfl)
theorem yk_X11_orders : xY yX11_orders RX11 cX11_orders 3 (some .int) 1 := ⟨⟨rfl, by decide +kernel, by decide +kernel, by decide +kernel⟩, mw_2, mw_1489⟩
theorem mw_1487 : Cond.instanceMethod yX11_orders ∈ wsL_law := inr_62 _ (List.mem_of_getElem? (i := 23) rfl)
theorem mw_1488 : Cond.selects RX11 yX11_orders yX11_orders ∈ wsL_law := inr_63 _ (List.mem_of_getElem? (i := 0) rfl)
theorem dL_law_1588 : decode cL_law 1588 = .ok (.aload_n 2, 1) := by decide +kernel
theorem dL_law_1589 : decode cL_law 1589 = .ok (.aload_n 0, 1) := by decide +kernel
theorem dL_law_1590 : decode cL_law 1590 = .ok (.iload_n 3, 1) := by decide +kernel
theorem dL_law_1591 : decode cL_law 1591 = .ok (.iconst 1, 1) := by decide +kernel
theorem dL_law_1592 : decode cL_law 1592 = .ok (.iadd, 1) := by decide +kernel
theorem dL_law_1593 : decode cL_law 1593 = .ok (.iaload, 1) := by decide +kernel
theorem dL_law_1594 : decode cL_law 1594 = .ok (.invokevirtual 182, 3) := by decide +kernel
theorem mw_1513 : Cond.methodLink RL 182 yX12_orders ∈ wsL_law := inr_64 _ (List.mem_of_getElem? (i := 1) rfl)
theorem mw_1516 : Cond.code yX12_orders cX12_orders 10 (some .int) ∈ wsL_law := inr_64 _ (List.mem_of_getElem? (i := 4) rfl)
theorem yk_X12_orders : xY yX12_orders RX12 cX12_orders 10 (some .int) 1 := ⟨⟨rfl, by decide +kernel, by decide +kernel, by decide +kernel⟩, mw_5, mw_1516⟩
theorem mw_1514 : Cond.instanceMethod yX12_orders ∈ wsL_law := inr_64 _ (List.mem_of_getElem? (i := 2) rfl)
theorem mw_1515 : Cond.selects RX12 yX12_orders yX12_orders ∈ wsL_law := inr_64 _ (List.mem_of_getElem? (i := 3) rfl)
theorem dL_law_1597 : decode cL_law 1597 = .ok (.if_icmp .eq 166, 3) := by decide +kernel
theorem dL_law_1602 : decode cL_law 1602 = .ok (.aload_n 1, 1) := by decide +kernel
theorem dL_law_1603 : decode cL_law 1603 = .ok (.aload_n 0, 1) := by decide +kernel
theorem dL_law_1604 : decode cL_law 1604 = .ok (.iload_n 3, 1) := by decide +kernel
theorem dL_law_1605 : decode cL_law 1605 = .ok (.iconst 1, 1) := by decide +kernel
theorem dL_law_1606 : decode cL_law 1606 = .ok (.iadd, 1) := by decide +kernel
theorem dL_law_1607 : decode cL_law 1607 = .ok (.iaload, 1) := by decide +kernel
theorem dL_law_1608 : decode cL_law 1608 = .ok (.aload_n 0, 1) := by decide +kernel
theorem dL_law_1609 : decode cL_law 1609 = .ok (.iload_n 3, 1) := by decide +kernel
theorem dL_law_1610 : decode cL_law 1610 = .ok (.iconst 2, 1) := by decide +kernel
theorem dL_law_1611 : decode cL_law 1611 = .ok (.iadd, 1) := by decide +kernel
theorem dL_law_1612 : decode cL_law 1612 = .ok (.iaload, 1) := by decide +kernel
theorem dL_law_1613 : decode cL_law 1613 = .ok (.invokevirtual 183, 3) := by decide +kernel
theorem mw_1522 : Cond.methodLink RL 183 yX11_ahead ∈ wsL_law := inr_64 _ (List.mem_of_getElem? (i := 10) rfl)
theorem mw_1525 : Cond.code yX11_ahead cX11_ahead 3 (some .int) ∈ wsL_law := inr_64 _ (List.mem_of_getElem? (i := 13) rfl)
theorem yk_X11_ahead : xY yX11_ahead RX11 cX11_ahead 3 (some .int) 2 := ⟨⟨rfl, by decide +kernel, by decide +kernel, by decide +kernel⟩, mw_2, mw_1525⟩
theorem mw_1523 : Cond.instanceMethod yX11_ahead ∈ wsL_law := inr_64 _ (List.mem_of_getElem? (i := 11) rfl)
theorem mw_1524 : Cond.selects RX11 yX11_ahead yX11_ahead ∈ wsL_law := inr_64 _ (List.mem_of_getElem? (i := 12) rfl)
theorem dL_law_1616 : decode cL_law 1616 = .ok (.aload_n 2, 1) := by decide +kernel
theorem dL_law_1617 : decode cL_law 1617 = .ok (.aload_n 0, 1) := by decide +kernel
theorem dL_law_1618 : decode cL_law 1618 = .ok (.iload_n 3, 1) := by decide +kernel
theorem dL_law_1619 : decode cL_law 1619 = .ok (.iconst 1, 1) := by decide +kernel
theorem dL_law_1620 : decode cL_law 1620 = .ok (.iadd, 1) := by decide +kernel
theorem dL_law_1621 : decode cL_law 1621 = .ok (.iaload, 1) := by decide +kernel
theorem dL_law_1622 : decode cL_law 1622 = .ok (.aload_n 0, 1) := by decide +kernel
theorem dL_law_1623 : decode cL_law 1623 = .ok (.iload_n 3, 1) := by decide +kernel
theorem dL_law_1624 : decode cL_law 1624 = .ok (.iconst 2, 1) := by decide +kernel
theorem dL_law_1625 : decode cL_law 1625 = .ok (.iadd, 1) := by decide +kernel
theorem dL_law_1626 : decode cL_law 1626 = .ok (.iaload, 1) := by decide +kernel
theorem dL_law_1627 : decode cL_law 1627 = .ok (.invokevirtual 186, 3) := by decide +kernel
theorem mw_1528 : Cond.methodLink RL 186 yX12_ahead ∈ wsL_law := inr_64 _ (List.mem_of_getElem? (i := 16) rfl)
theorem mw_1531 : Cond.code yX12_ahead cX12_ahead 3 (some .int) ∈ wsL_law := inr_64 _ (List.mem_of_getElem? (i := 19) rfl)
theorem yk_X12_ahead : xY yX12_ahead RX12 cX12_ahead 3 (some .int) 2 := ⟨⟨rfl, by decide +kernel, by decide +kernel, by decide +kernel⟩, mw_5, mw_1531⟩
theorem mw_1529 : Cond.instanceMethod yX12_ahead ∈ wsL_law := inr_64 _ (List.mem_of_getElem? (i := 17) rfl)
theorem mw_1530 : Cond.selects RX12 yX12_ahead yX12_ahead ∈ wsL_law := inr_64 _ (List.mem_of_getElem? (i := 18) rfl)
theorem dL_law_1630 : decode cL_law 1630 = .ok (.if_icmp .eq 133, 3) := by decide +kernel
theorem dL_law_1635 : decode cL_law 1635 = .ok (.aload_n 1, 1) := by decide +kernel
theorem dL_law_1636 : decode cL_law 1636 = .ok (.aload_n 0, 1) := by decide +kernel
theorem dL_law_1637 : decode cL_law 1637 = .ok (.iload_n 3, 1) := by decide +kernel
theorem dL_law_1638 : decode cL_law 1638 = .ok (.iconst 1, 1) := by decide +kernel
theorem dL_law_1639 : decode cL_law 1639 = .ok (.iadd, 1) := by decide +kernel
theorem dL_law_1640 : decode cL_law 1640 = .ok (.iaload, 1) := by decide +kernel
theorem dL_law_1641 : decode cL_law 1641 = .ok (.aload_n 0, 1) := by decide +kernel
theorem dL_law_1642 : decode cL_law 1642 = .ok (.iload_n 3, 1) := by decide +kernel
theorem dL_law_1643 : decode cL_law 1643 = .ok (.iconst 2, 1) := by decide +kernel
theorem dL_law_1644 : decode cL_law 1644 = .ok (.iadd, 1) := by decide +kernel
theorem dL_law_1645 : decode cL_law 1645 = .ok (.iaload, 1) := by decide +kernel
theorem dL_law_1646 : decode cL_law 1646 = .ok (.ifCond .eq 7, 3) := by decide +kernel
theorem dL_law_1653 : decode cL_law 1653 = .ok (.iconst 0, 1) := by decide +kernel
theorem dL_law_1654 : decode cL_law 1654 = .ok (.invokevirtual 187, 3) := by decide +kernel
theorem mw_1532 : Cond.methodLink RL 187 yX11_leave ∈ wsL_law := inr_64 _ (List.mem_of_getElem? (i := 20) rfl)
theorem mw_1535 : Cond.code yX11_leave cX11_leave 3 (some .boolean) ∈ wsL_law := inr_64 _ (List.mem_of_getElem? (i := 23) rfl)
theorem yk_X11_leave : xY yX11_leave RX11 cX11_leave 3 (some .boolean) 2 := ⟨⟨rfl, by decide +kernel, by decide +kernel, by decide +kernel⟩, mw_2, mw_1535⟩
theorem mw_1533 : Cond.instanceMethod yX11_leave ∈ wsL_law := inr_64 _ (List.mem_of_getElem? (i := 21) rfl)
theorem mw_1534 : Cond.selects RX11 yX11_leave yX11_leave ∈ wsL_law := inr_64 _ (List.mem_of_getElem? (i := 22) rfl)
theorem dL_law_1657 : decode cL_law 1657 = .ok (.aload_n 2, 1) := by decide +kernel
theorem dL_law_1658 : decode cL_law 1658 = .ok (.aload_n 0, 1) := by decide +kernel
theorem dL_law_1659 : decode cL_law 1659 = .ok (.iload_n 3, 1) := by decide +kernel
theorem dL_law_1660 : decode cL_law 1660 = .ok (.iconst 1, 1) := by decide +kernel
theorem dL_law_1661 : decode cL_law 1661 = .ok (.iadd, 1) := by decide +kernel
theorem dL_law_1662 : decode cL_law 1662 = .ok (.iaload, 1) := by decide +kernel
theorem dL_law_1663 : decode cL_law 1663 = .ok (.aload_n 0, 1) := by decide +kernel
theorem dL_law_1664 : decode cL_law 1664 = .ok (.iload_n 3, 1) := by decide +kernel
theorem dL_law_1665 : decode cL_law 1665 = .ok (.iconst 2, 1) := by decide +kernel
theorem dL_law_1666 : decode cL_law 1666 = .ok (.iadd, 1) := by decide +kernel
theorem dL_law_1667 : decode cL_law 1667 = .ok (.iaload, 1) := by decide +kernel
theorem dL_law_1668 : decode cL_law 1668 = .ok (.ifCond .eq 7, 3) := by decide +kernel
theorem dL_law_1675 : decode cL_law 1675 = .ok (.iconst 0, 1) := by decide +kernel
theorem dL_law_1676 : decode cL_law 1676 = .ok (.invokevirtual 191, 3) := by decide +kernel
theorem mw_1537 : Cond.methodLink RL 191 yX12_leave ∈ wsL_law := inr_65 _ (List.mem_of_getElem? (i := 1) rfl)
theorem mw_1540 : Cond.code yX12_leave cX12_leave 3 (some .boolean) ∈ wsL_law := inr_65 _ (List.mem_of_getElem? (i := 4) rfl)
theorem yk_X12_leave : xY yX12_leave RX12 cX12_leave 3 (some .boolean) 2 := ⟨⟨rfl, by decide +kernel, by decide +kernel, by decide +kernel⟩, mw_5, mw_1540⟩
theorem mw_1538 : Cond.instanceMethod yX12_leave ∈ wsL_law := inr_65 _ (List.mem_of_getElem? (i := 2) rfl)
theorem mw_1539 : Cond.selects RX12 yX12_leave yX12_leave ∈ wsL_law := inr_65 _ (List.mem_of_getElem? (i := 3) rfl)
theorem dL_law_1679 : decode cL_law 1679 = .ok (.if_icmp .eq 84, 3) := by decide +kernel
theorem dL_law_1671 : decode cL_law 1671 = .ok (.iconst 1, 1) := by decide +kernel
theorem dL_law_1672 : decode cL_law 1672 = .ok (.goto 4, 3) := by decide +kernel
theorem dL_law_1649 : decode cL_law 1649 = .ok (.iconst 1, 1) := by decide +kernel
theorem dL_law_1650 : decode cL_law 1650 = .ok (.goto 4, 3) := by decide +kernel
theorem dL_law_1684 : decode cL_law 1684 = .ok (.aload_n 1, 1) := by decide +kernel
theorem dL_law_1685 : decode cL_law 1685 = .ok (.aload_n 0, 1) := by decide +kernel
theorem dL_law_1686 : decode cL_law 1686 = .ok (.iload_n 3, 1) := by decide +kernel
theorem dL_law_1687 : decode cL_law 1687 = .ok (.iconst 1, 1) := by decide +kernel
theorem dL_law_1688 : decode cL_law 1688 = .ok (.iadd, 1) := by decide +kernel
theorem dL_law_1689 : decode cL_law 1689 = .ok (.iaload, 1) := by decide +kernel
theorem dL_law_1690 : decode cL_law 1690 = .ok (.i2l, 1) := by decide +kernel
theorem dL_law_1691 : decode cL_law 1691 = .ok (.bipush 32, 2) := by decide +kernel
theorem dL_law_1693 : decode cL_law 1693 = .ok (.lshl, 1) := by decide +kernel
theorem dL_law_1694 : decode cL_law 1694 = .ok (.aload_n 0, 1) := by decide +kernel
theorem dL_law_1695 : decode cL_law 1695 = .ok (.iload_n 3, 1) := by decide +kernel
theorem dL_law_1696 : decode cL_law 1696 = .ok (.iconst 2, 1) := by decide +kernel
theorem dL_law_1697 : decode cL_law 1697 = .ok (.iadd, 1) := by decide +kernel
theorem dL_law_1698 : decode cL_law 1698 = .ok (.iaload, 1) := by decide +kernel
theorem dL_law_1699 : decode cL_law 1699 = .ok (.i2l, 1) := by decide +kernel
theorem dL_law_1700 : decode cL_law 1700 = .ok (.ldc2_w 32, 3) := by decide +kernel
theorem dL_law_1703 : decode cL_law 1703 = .ok (.land, 1) := by decide +kernel
theorem dL_law_1704 : decode cL_law 1704 = .ok (.lor, 1) := by decide +kernel
theorem dL_law_1705 : decode cL_law 1705 = .ok (.invokevirtual 192, 3) := by decide +kernel
theorem mw_1541 : Cond.methodLink RL 192 yX11_heard ∈ wsL_law := inr_65 _ (List.mem_of_getElem? (i := 5) rfl)
theorem mw_1544 : Cond.code yX11_heard cX11_heard 3 (some .int) ∈ wsL_law := inr_65 _ (List.mem_of_getElem? (i := 8) rfl)
theorem yk_X11_heard : xY yX11_heard RX11 cX11_heard 3 (some .int) 1 := ⟨⟨rfl, by decide +kernel, by decide +kernel, by decide +kernel⟩, mw_2, mw_1544⟩
theorem mw_1542 : Cond.instanceMethod yX11_heard ∈ wsL_law := inr_65 _ (List.mem_of_getElem? (i := 6) rfl)
theorem mw_1543 : Cond.selects RX11 yX11_heard yX11_heard ∈ wsL_law := inr_65 _ (List.mem_of_getElem? (i := 7) rfl)
theorem dL_law_1708 : decode cL_law 1708 = .ok (.aload_n 2, 1) := by decide +kernel
theorem dL_law_1709 : decode cL_law 1709 = .ok (.aload_n 0, 1) := by decide +kernel
theorem dL_law_1710 : decode cL_law 1710 = .ok (.iload_n 3, 1) := by decide +kernel
theorem dL_law_1711 : decode cL_law 1711 = .ok (.iconst 1, 1) := by decide +kernel
theorem dL_law_1712 : decode cL_law 1712 = .ok (.iadd, 1) := by decide +kernel
theorem dL_law_1713 : decode cL_law 1713 = .ok (.iaload, 1) := by decide +kernel
theorem dL_law_1714 : decode cL_law 1714 = .ok (.i2l, 1) := by decide +kernel
theorem dL_law_1715 : decode cL_law 1715 = .ok (.bipush 32, 2) := by decide +kernel
theorem dL_law_1717 : decode cL_law 1717 = .ok (.lshl, 1) := by decide +kernel
theorem dL_law_1718 : decode cL_law 1718 = .ok (.aload_n 0, 1) := by decide +kernel
theorem dL_law_1719 : decode cL_law 1719 = .ok (.iload_n 3, 1) := by decide +kernel
theorem dL_law_1720 : decode cL_law 1720 = .ok (.iconst 2, 1) := by decide +kernel
theorem dL_law_1721 : decode cL_law 1721 = .ok (.iadd, 1) := by decide +kernel
theorem dL_law_1722 : decode cL_law 1722 = .ok (.iaload, 1) := by decide +kernel
theorem dL_law_1723 : decode cL_law 1723 = .ok (.i2l, 1) := by decide +kernel
theorem dL_law_1724 : decode cL_law 1724 = .ok (.ldc2_w 32, 3) := by decide +kernel
theorem dL_law_1727 : decode cL_law 1727 = .ok (.land, 1) := by decide +kernel
theorem dL_law_1728 : decode cL_law 1728 = .ok (.lor, 1) := by decide +kernel
theorem dL_law_1729 : decode cL_law 1729 = .ok (.invokevirtual 196, 3) := by decide +kernel
theorem mw_1553 : Cond.methodLink RL 196 yX12_heard ∈ wsL_law := inr_65 _ (List.mem_of_getElem? (i := 17) rfl)
theorem mw_1556 : Cond.code yX12_heard cX12_heard 7 (some .int) ∈ wsL_law := inr_65 _ (List.mem_of_getElem? (i := 20) rfl)
theorem yk_X12_heard : xY yX12_heard RX12 cX12_heard 7 (some .int) 1 := ⟨⟨rfl, by decide +kernel, by decide +kernel, by decide +kernel⟩, mw_5, mw_1556⟩
theorem mw_1554 : Cond.instanceMethod yX12_heard ∈ wsL_law := inr_65 _ (List.mem_of_getElem? (i := 18) rfl)
theorem mw_1555 : Cond.selects RX12 yX12_heard yX12_heard ∈ wsL_law := inr_65 _ (List.mem_of_getElem? (i := 19) rfl)
theorem dL_law_1732 : decode cL_law 1732 = .ok (.if_icmp .eq 31, 3) := by decide +kernel
theorem dL_law_1737 : decode cL_law 1737 = .ok (.aload_n 1, 1) := by decide +kernel
theorem dL_law_1738 : decode cL_law 1738 = .ok (.invokevirtual 197, 3) := by decide +kernel
theorem mw_1557 : Cond.methodLink RL 197 yX11_mark ∈ wsL_law := inr_65 _ (List.mem_of_getElem? (i := 21) rfl)
theorem mw_1560 : Cond.code yX11_mark cX11_mark 1 (some .int) ∈ wsL_law := inr_66 _ (List.mem_of_getElem? (i := 0) rfl)
theorem yk_X11_mark : xY yX11_mark RX11 cX11_mark 1 (some .int) 0 := ⟨⟨rfl, by decide +kernel, by decide +kernel, by decide +kernel⟩, mw_2, mw_1560⟩
theorem mw_1558 : Cond.instanceMethod yX11_mark ∈ wsL_law := inr_65 _ (List.mem_of_getElem? (i := 22) rfl)
theorem mw_1559 : Cond.selects RX11 yX11_mark yX11_mark ∈ wsL_law := inr_65 _ (List.mem_of_getElem? (i := 23) rfl)
theorem dL_law_1741 : decode cL_law 1741 = .ok (.aload_n 2, 1) := by decide +kernel
theorem dL_law_1742 : decode cL_law 1742 = .ok (.invokevirtual 200, 3) := by decide +kernel
theorem mw_1572 : Cond.methodLink RL 200 yX12_mark ∈ wsL_law := inr_66 _ (List.mem_of_getElem? (i := 12) rfl)
theorem mw_1575 : Cond.code yX12_mark cX12_mark 1 (some .int) ∈ wsL_law := inr_66 _ (List.mem_of_getElem? (i := 15) rfl)
theorem yk_X12_mark : xY yX12_mark RX12 cX12_mark 1 (some .int) 0 := ⟨⟨rfl, by decide +kernel, by decide +kernel, by decide +kernel⟩, mw_5, mw_1575⟩
theorem mw_1573 : Cond.instanceMethod yX12_mark ∈ wsL_law := inr_66 _ (List.mem_of_getElem? (i := 13) rfl)
theorem mw_1574 : Cond.selects RX12 yX12_mark yX12_mark ∈ wsL_law := inr_66 _ (List.mem_of_getElem? (i := 14) rfl)
theorem dL_law_1745 : decode cL_law 1745 = .ok (.if_icmp .eq 18, 3) := by decide +kernel
theorem dL_law_1750 : decode cL_law 1750 = .ok (.aload_n 1, 1) := by decide +kernel
theorem dL_law_1751 : decode cL_law 1751 = .ok (.invokevirtual 201, 3) := by decide +kernel
theorem mw_1577 : Cond.methodLink RL 201 yX11_back ∈ wsL_law := inr_66 _ (List.mem_of_getElem? (i := 17) rfl)
theorem mw_1580 : Cond.code yX11_back cX11_back 1 (some .int) ∈ wsL_law := inr_66 _ (List.mem_of_getElem? (i := 20) rfl)
theorem yk_X11_back : xY yX11_back RX11 cX11_back 1 (some .int) 0 := ⟨⟨rfl, by decide +kernel, by decide +kernel, by decide +kernel⟩, mw_2, mw_1580⟩
theorem mw_1578 : Cond.instanceMethod yX11_back ∈ wsL_law := inr_66 _ (List.mem_of_getElem? (i := 18) rfl)
theorem mw_1579 : Cond.selects RX11 yX11_back yX11_back ∈ wsL_law := inr_66 _ (List.mem_of_getElem? (i := 19) rfl)
theorem dL_law_1754 : decode cL_law 1754 = .ok (.aload_n 2, 1) := by decide +kernel
theorem dL_law_1755 : decode cL_law 1755 = .ok (.invokevirtual 204, 3) := by decide +kernel
theorem mw_1581 : Cond.methodLink RL 204 yX12_back ∈ wsL_law := inr_66 _ (List.mem_of_getElem? (i := 21) rfl)
theorem mw_1584 : Cond.code yX12_back cX12_back 1 (some .int) ∈ wsL_law := inr_67 _ (List.mem_of_getElem? (i := 0) rfl)
theorem yk_X12_back : xY yX12_back RX12 cX12_back 1 (some .int) 0 := ⟨⟨rfl, by decide +kernel, by decide +kernel, by decide +kernel⟩, mw_5, mw_1584⟩
theorem mw_1582 : Cond.instanceMethod yX12_back ∈ wsL_law := inr_66 _ (List.mem_of_getElem? (i := 22) rfl)
theorem mw_1583 : Cond.selects RX12 yX12_back yX12_back ∈ wsL_law := inr_66 _ (List.mem_of_getElem? (i := 23) rfl)
theorem dL_law_1758 : decode cL_law 1758 = .ok (.if_icmp .eq 5, 3) := by decide +kernel
set_option maxHeartbeats 4000000 in
set_option maxRecDepth 100000 in
theorem law_c33 {p : Program} {l : Launch} {e : Env} {s : State} {m : MethodId} {below : List Frame} {meth : Method} {c : Code} {b : Nat} {xs : Nat → Int32} {D : va_G} {cy : Nat → ClassId} {A : Nat → Prop} {H : Heap} {locs : List Loc} {ls : Array Slot} {q r : Nat} {u v : Nat → Nat} (F : CallFix p m c cL_law 4 s #[Value.ref b] wsL_law RL) (hr : meth.sig.returnType = ret) (hlocks : meth.locks = false) (hX : va_X b 6 xs s s.heap) (hbl : b < s.heap.size) (hAs : ∀ q, A q → s.heap.size ≤ q) (h : xS D cy A s.heap (askW cy q u ++ modW cy r v) s H locs) (hl : lv_has ls 4 [(3, .int 0), (2, .ref r), (1, .ref q), (0, .ref b)]) : W p l e room_1 s m #[Value.ref b] below meth c H locs 857 99087 (lw_Z below #[Value.ref b] s) (F0 m 1477 ls []) := by
  have hbA : ¬ A b := fun ha => absurd (hAs b ha) (Nat.not_le.mpr hbl)
  have h : xS D cy A s.heap ([(q, .inr (11, [.ref ((u 0)), .ref ((u 1)), .ref ((u 2)), .ref ((u 3)), .ref ((u 4)), .ref ((u 5)), .ref ((u 6)), .ref ((u 7)), .ref ((u 8)), .ref ((u 9)), .int 0, .int 0, .int (-1), .int 0, .int 0, .long 0, .long 1])), (((u 5)), .inr (9, [.ref ((u 21)), .ref ((u 22)), .ref ((u 23)), .ref ((u 24)), .int 0])), (r, .inr (12, (.ref ((v 0)) :: .int 0 :: .long 0 :: .long 1 :: .ref ((v 1)) :: .ref ((v 2)) :: .ref ((v 3)) :: .ref ((v 4)) :: .ref ((v 5)) :: .int 0 :: .int 0 :: .int 0 :: .int 0 :: .int 0 :: .int 0 :: .int (-1) :: .int (-1) :: .int 0 :: .ref ((v 6)) :: .int 0 :: .int 0 :: .ref ((v 7)) :: .ref ((v 8)) :: .ref ((v 9)) :: .ref ((v 10)) :: .ref ((v 11)) :: .ref ((v 12)) :: .ref ((v 13)) :: .int 0 :: .int 0 :: .int (-1) :: .int 0 :: .int (-1) :: .int 0 :: .ref ((v 14)) :: .int 0 :: .int 0 :: .int 0 :: .int 0 :: .int 0 :: .ref ((v 15)) :: .ref ((v 16)) :: .int 0 :: .int (-1) :: .int 0 :: .int 0 :: .int 0 :: .int 0 :: .ref ((v 17)) :: .ref ((v 18)) :: .ref ((v 19)) :: .int 0 :: .ref ((v 20)) :: .ref ((v 21)) :: .int 0 :: .ref ((v 22)) :: .int (-1) :: .int 0 :: .ref ((v 23)) :: .int (-1) :: .int (-1) :: .int 0 :: .ref ((v 24)) :: .ref ((v 25)) :: .int 0 :: [])))]) s H locs := h.sub [0, 12, 146] (by decide +kernel) rfl
  refine lv_aload_n F.1 F.2.1 dL_law_1477 rfl (lv_at hl 2 rfl) ?_
  refine lv_aload_n F.1 F.2.1 dL_law_1478 rfl (lv_at hl 3 rfl) ?_
  refine lv_iload_n F.1 F.2.1 dL_law_1479 rfl (lv_at hl 0 rfl) ?_
  refine lv_iconst (v := 1) F.1 F.2.1 dL_law_1480 (by decide) ?_
  refine lv_iadd F.1 F.2.1 dL_law_1481 ?_
  refine x_topi (y := 1) (by decide +kernel) ?_
  refine va_sld F.1 F.2.1 hX hbl hbA h.2.2.2.1 (x_in (by decide +kernel)) dL_law_1482 ?_
  refine x_topi (y := (xs 1)) rfl ?_
  refine x_Vi (wr := [(r, .inr (12, (.ref ((v 0)) :: .int 0 :: .long 0 :: .long 1 :: .ref ((v 1)) :: .ref ((v 2)) :: .ref ((v 3)) :: .ref ((v 4)) :: .ref ((v 5)) :: .int 0 :: .int 0 :: .int 0 :: .int 0 :: .int 0 :: .int 0 :: .int (-1) :: .int (-1) :: .int 0 :: .ref ((v 6)) :: .int 0 :: .int 0 :: .ref ((v 7)) :: .ref ((v 8)) :: .ref ((v 9)) :: .ref ((v 10)) :: .ref ((v 11)) :: .ref ((v 12)) :: .ref ((v 13)) :: .int 0 :: .int 0 :: .int (-1) :: .int 0 :: .int (-1) :: .int 0 :: .ref ((v 14)) :: .int 0 :: .int 0 :: .int 0 :: .int 0 :: .int 0 :: .ref ((v 15)) :: .ref ((v 16)) :: .int 0 :: .int (-1) :: .int 0 :: .int 0 :: .int 0 :: .int 0 :: .ref ((v 17)) :: .ref ((v 18)) :: .ref ((v 19)) :: .int 0 :: .ref ((v 20)) :: .ref ((v 21)) :: .int 0 :: .ref ((v 22)) :: .int (-1) :: .int 0 :: .ref ((v 23)) :: .int (-1) :: .int (-1) :: .int 0 :: .ref ((v 24)) :: .ref ((v 25)) :: .int 0 :: [])))]) F h yk_X11_odds mw_1409 mw_1410 mw_1411 (c_odds l D cy q u ((xs 1))) [0, 1] [2] 0 rfl rfl rfl rfl (by decide) rfl rfl hl.1 rfl (Nat.le_of_ble_eq_true rfl) ⟨Nat.le_of_ble_eq_true rfl, Nat.le_of_ble_eq_true rfl⟩ ⟨Nat.le_of_ble_eq_true rfl, Nat.le_of_ble_eq_true rfl⟩ dL_law_1483 (fun r2 u3 H locs hp1 h => ?_)
  have h : xS D cy A s.heap ([(r, .inr (12, (.ref ((v 0)) :: .int 0 :: .long 0 :: .long 1 :: .ref ((v 1)) :: .ref ((v 2)) :: .ref ((v 3)) :: .ref ((v 4)) :: .ref ((v 5)) :: .int 0 :: .int 0 :: .int 0 :: .int 0 :: .int 0 :: .int 0 :: .int (-1) :: .int (-1) :: .int 0 :: .ref ((v 6)) :: .int 0 :: .int 0 :: .ref ((v 7)) :: .ref ((v 8)) :: .ref ((v 9)) :: .ref ((v 10)) :: .ref ((v 11)) :: .ref ((v 12)) :: .ref ((v 13)) :: .int 0 :: .int 0 :: .int (-1) :: .int 0 :: .int (-1) :: .int 0 :: .ref ((v 14)) :: .int 0 :: .int 0 :: .int 0 :: .int 0 :: .int 0 :: .ref ((v 15)) :: .ref ((v 16)) :: .int 0 :: .int (-1) :: .int 0 :: .int 0 :: .int 0 :: .int 0 :: .ref ((v 17)) :: .ref ((v 18)) :: .ref ((v 19)) :: .int 0 :: .ref ((v 20)) :: .ref ((v 21)) :: .int 0 :: .ref ((v 22)) :: .int (-1) :: .int 0 :: .ref ((v 23)) :: .int (-1) :: .int (-1) :: .int 0 :: .ref ((v 24)) :: .ref ((v 25)) :: .int 0 :: [])))]) s H locs := h
  refine lv_aload_n F.1 F.2.1 dL_law_1486 rfl (lv_at hl 1 rfl) ?_
  refine lv_aload_n F.1 F.2.1 dL_law_1487 rfl (lv_at hl 3 rfl) ?_
  refine lv_iload_n F.1 F.2.1 dL_law_1488 rfl (lv_at hl 0 rfl) ?_
  refine lv_iconst (v := 1) F.1 F.2.1 dL_law_1489 (by decide) ?_
  refine lv_iadd F.1 F.2.1 dL_law_1490 ?_
  refine x_topi (y := 1) (by decide +kernel) ?_
  refine va_sld F.1 F.2.1 hX hbl hbA h.2.2.2.1 (x_in (by decide +kernel)) dL_law_1491 ?_
  refine x_topi (y := (xs 1)) rfl ?_
  refine x_Vi (wr := []) F h yk_X12_odds mw_1421 mw_1422 mw_1423 (c_m_odds l D cy r v ((xs 1))) [0] [] 0 rfl rfl rfl rfl (by decide) rfl rfl hl.1 rfl (Nat.le_of_ble_eq_true rfl) ⟨Nat.le_of_ble_eq_true rfl, Nat.le_of_ble_eq_true rfl⟩ ⟨Nat.le_of_ble_eq_true rfl, Nat.le_of_ble_eq_true rfl⟩ dL_law_1492 (fun r5 u6 H locs hp4 h => ?_)
  have h : xS D cy A s.heap ([]) s H locs := h
  refine lv_icmp_eq (tgt := 1763) F.1 F.2.1 dL_law_1495 (by decide) (fun _ => ?_) (fun hc => absurd (hp1.trans hp4.symm) hc)
  exact law_end F hr hlocks hX hbl hAs h (lv_sub hl [0, 3] rfl)
set_option maxHeartbeats 4000000 in
set_option maxRecDepth 100000 in
theorem law_c34 {p : Program} {l : Launch} {e : Env} {s : State} {m : MethodId} {below : List Frame} {meth : Method} {c : Code} {b : Nat} {xs : Nat → Int32} {D : va_G} {cy : Nat → ClassId} {A : Nat → Prop} {H : Heap} {locs : List Loc} {ls : Array Slot} {q r : Nat} {u v : Nat → Nat} (F : CallFix p m c cL_law 4 s #[Value.ref b] wsL_law RL) (hr : meth.sig.returnType = ret) (hlocks : meth.locks = false) (hX : va_X b 6 xs s s.heap) (hbl : b < s.heap.size) (hAs : ∀ q, A q → s.heap.size ≤ q) (h : xS D cy A s.heap (askW cy q u ++ modW cy r v) s H locs) (hl : lv_has ls 4 [(3, .int 0), (2, .ref r), (1, .ref q), (0, .ref b)]) : W p l e room_1 s m #[Value.ref b] below meth c H locs 857 99087 (lw_Z below #[Value.ref b] s) (F0 m 1500 ls []) := by
  have hbA : ¬ A b := fun ha => absurd (hAs b ha) (Nat.not_le.mpr hbl)
  have h : xS D cy A s.heap ([(q, .inr (11, [.ref ((u 0)), .ref ((u 1)), .ref ((u 2)), .ref ((u 3)), .ref ((u 4)), .ref ((u 5)), .ref ((u 6)), .ref ((u 7)), .ref ((u 8)), .ref ((u 9)), .int 0, .int 0, .int (-1), .int 0, .int 0, .long 0, .long 1])), (((u 5)), .inr (9, [.ref ((u 21)), .ref ((u 22)), .ref ((u 23)), .ref ((u 24)), .int 0])), (((u 3)), .inr (0, [.ref ((u 57)), .ref ((u 58)), .ref ((u 59)), .ref ((u 60)), .ref ((u 61)), .int 0, .int 0])), (r, .inr (12, (.ref ((v 0)) :: .int 0 :: .long 0 :: .long 1 :: .ref ((v 1)) :: .ref ((v 2)) :: .ref ((v 3)) :: .ref ((v 4)) :: .ref ((v 5)) :: .int 0 :: .int 0 :: .int 0 :: .int 0 :: .int 0 :: .int 0 :: .int (-1) :: .int (-1) :: .int 0 :: .ref ((v 6)) :: .int 0 :: .int 0 :: .ref ((v 7)) :: .ref ((v 8)) :: .ref ((v 9)) :: .ref ((v 10)) :: .ref ((v 11)) :: .ref ((v 12)) :: .ref ((v 13)) :: .int 0 :: .int 0 :: .int (-1) :: .int 0 :: .int (-1) :: .int 0 :: .ref ((v 14)) :: .int 0 :: .int 0 :: .int 0 :: .int 0 :: .int 0 :: .ref ((v 15)) :: .ref ((v 16)) :: .int 0 :: .int (-1) :: .int 0 :: .int 0 :: .int 0 :: .int 0 :: .ref ((v 17)) :: .ref ((v 18)) :: .ref ((v 19)) :: .int 0 :: .ref ((v 20)) :: .ref ((v 21)) :: .int 0 :: .ref ((v 22)) :: .int (-1) :: .int 0 :: .ref ((v 23)) :: .int (-1) :: .int (-1) :: .int 0 :: .ref ((v 24)) :: .ref ((v 25)) :: .int 0 :: [])))]) s H locs := h.sub [0, 12, 34, 146] (by decide +kernel) rfl
  refine lv_aload_n F.1 F.2.1 dL_law_1500 rfl (lv_at hl 2 rfl) ?_
  refine lv_aload_n F.1 F.2.1 dL_law_1501 rfl (lv_at hl 3 rfl) ?_
  refine lv_iload_n F.1 F.2.1 dL_law_1502 rfl (lv_at hl 0 rfl) ?_
  refine lv_iconst (v := 1) F.1 F.2.1 dL_law_1503 (by decide) ?_
  refine lv_iadd F.1 F.2.1 dL_law_1504 ?_
  refine x_topi (y := 1) (by decide +kernel) ?_
  refine va_sld F.1 F.2.1 hX hbl hbA h.2.2.2.1 (x_in (by decide +kernel)) dL_law_1505 ?_
  refine x_topi (y := (xs 1)) rfl ?_
  refine x_Vi (wr := [(r, .inr (12, (.ref ((v 0)) :: .int 0 :: .long 0 :: .long 1 :: .ref ((v 1)) :: .ref ((v 2)) :: .ref ((v 3)) :: .ref ((v 4)) :: .ref ((v 5)) :: .int 0 :: .int 0 :: .int 0 :: .int 0 :: .int 0 :: .int 0 :: .int (-1) :: .int (-1) :: .int 0 :: .ref ((v 6)) :: .int 0 :: .int 0 :: .ref ((v 7)) :: .ref ((v 8)) :: .ref ((v 9)) :: .ref ((v 10)) :: .ref ((v 11)) :: .ref ((v 12)) :: .ref ((v 13)) :: .int 0 :: .int 0 :: .int (-1) :: .int 0 :: .int (-1) :: .int 0 :: .ref ((v 14)) :: .int 0 :: .int 0 :: .int 0 :: .int 0 :: .int 0 :: .ref ((v 15)) :: .ref ((v 16)) :: .int 0 :: .int (-1) :: .int 0 :: .int 0 :: .int 0 :: .int 0 :: .ref ((v 17)) :: .ref ((v 18)) :: .ref ((v 19)) :: .int 0 :: .ref ((v 20)) :: .ref ((v 21)) :: .int 0 :: .ref ((v 22)) :: .int (-1) :: .int 0 :: .ref ((v 23)) :: .int (-1) :: .int (-1) :: .int 0 :: .ref ((v 24)) :: .ref ((v 25)) :: .int 0 :: [])))]) F h yk_X11_claim mw_1425 mw_1426 mw_1427 (c_claim l D cy q u ((xs 1))) [0, 1, 2] [3] 0 rfl rfl rfl rfl (by decide) rfl rfl hl.1 rfl (Nat.le_of_ble_eq_true rfl) ⟨Nat.le_of_ble_eq_true rfl, Nat.le_of_ble_eq_true rfl⟩ ⟨Nat.le_of_ble_eq_true rfl, Nat.le_of_ble_eq_true rfl⟩ dL_law_1506 (fun r2 u3 H locs hp1 h => ?_)
  have h : xS D cy A s.heap ([(r, .inr (12, (.ref ((v 0)) :: .int 0 :: .long 0 :: .long 1 :: .ref ((v 1)) :: .ref ((v 2)) :: .ref ((v 3)) :: .ref ((v 4)) :: .ref ((v 5)) :: .int 0 :: .int 0 :: .int 0 :: .int 0 :: .int 0 :: .int 0 :: .int (-1) :: .int (-1) :: .int 0 :: .ref ((v 6)) :: .int 0 :: .int 0 :: .ref ((v 7)) :: .ref ((v 8)) :: .ref ((v 9)) :: .ref ((v 10)) :: .ref ((v 11)) :: .ref ((v 12)) :: .ref ((v 13)) :: .int 0 :: .int 0 :: .int (-1) :: .int 0 :: .int (-1) :: .int 0 :: .ref ((v 14)) :: .int 0 :: .int 0 :: .int 0 :: .int 0 :: .int 0 :: .ref ((v 15)) :: .ref ((v 16)) :: .int 0 :: .int (-1) :: .int 0 :: .int 0 :: .int 0 :: .int 0 :: .ref ((v 17)) :: .ref ((v 18)) :: .ref ((v 19)) :: .int 0 :: .ref ((v 20)) :: .ref ((v 21)) :: .int 0 :: .ref ((v 22)) :: .int (-1) :: .int 0 :: .ref ((v 23)) :: .int (-1) :: .int (-1) :: .int 0 :: .ref ((v 24)) :: .ref ((v 25)) :: .int 0 :: [])))]) s H locs := h
  obtain rfl : r2 = (-1) := hp1
  refine lv_aload_n F.1 F.2.1 dL_law_1509 rfl (lv_at hl 1 rfl) ?_
  refine lv_aload_n F.1 F.2.1 dL_law_1510 rfl (lv_at hl 3 rfl) ?_
  refine lv_iload_n F.1 F.2.1 dL_law_1511 rfl (lv_at hl 0 rfl) ?_
  refine lv_iconst (v := 1) F.1 F.2.1 dL_law_1512 (by decide) ?_
  refine lv_iadd F.1 F.2.1 dL_law_1513 ?_
  refine x_topi (y := 1) (by decide +kernel) ?_
  refine va_sld F.1 F.2.1 hX hbl hbA h.2.2.2.1 (x_in (by decide +kernel)) dL_law_1514 ?_
  refine x_topi (y := (xs 1)) rfl ?_
  refine x_Vi (wr := []) F h yk_X12_claim mw_1438 mw_1439 mw_1440 (c_m_claim l D cy r v ((xs 1))) [0] [] 0 rfl rfl rfl rfl (by decide) rfl rfl hl.1 rfl (Nat.le_of_ble_eq_true rfl) ⟨Nat.le_of_ble_eq_true rfl, Nat.le_of_ble_eq_true rfl⟩ ⟨Nat.le_of_ble_eq_true rfl, Nat.le_of_ble_eq_true rfl⟩ dL_law_1515 (fun r5 u6 H locs hp4 h => ?_)
  have h : xS D cy A s.heap ([]) s H locs := h
  obtain rfl : r5 = (-1) := hp4
  refine lv_icmp_eq (tgt := 1763) F.1 F.2.1 dL_law_1518 (by decide) (fun _ => ?_) (fun hc => absurd (by decide) hc)
  exact law_end F hr hlocks hX hbl hAs h (lv_sub hl [0, 3] rfl)
set_option maxHeartbeats 4000000 in
set_option maxRecDepth 100000 in
theorem law_c35 {p : Program} {l : Launch} {e : Env} {s : State} {m : MethodId} {below : List Frame} {meth : Method} {c : Code} {b : Nat} {xs : Nat → Int32} {D : va_G} {cy : Nat → ClassId} {A : Nat → Prop} {H : Heap} {locs : List Loc} {ls : Array Slot} {q r : Nat} {u v : Nat → Nat} (F : CallFix p m c cL_law 4 s #[Value.ref b] wsL_law RL) (hr : meth.sig.returnType = ret) (hlocks : meth.locks = false) (hX : va_X b 6 xs s s.heap) (hbl : b < s.heap.size) (hAs : ∀ q, A q → s.heap.size ≤ q) (h : xS D cy A s.heap (askW cy q u ++ modW cy r v) s H locs) (hl : lv_has ls 4 [(3, .int 0), (2, .ref r), (1, .ref q), (0, .ref b)]) : W p l e room_1 s m #[Value.ref b] below meth c H locs 857 99087 (lw_Z below #[Value.ref b] s) (F0 m 1523 ls []) := by
  have hbA : ¬ A b := fun ha => absurd (hAs b ha) (Nat.not_le.mpr hbl)
  have h : xS D cy A s.heap ([(q, .inr (11, [.ref ((u 0)), .ref ((u 1)), .ref ((u 2)), .ref ((u 3)), .ref ((u 4)), .ref ((u 5)), .ref ((u 6)), .ref ((u 7)), .ref ((u 8)), .ref ((u 9)), .int 0, .int 0, .int (-1), .int 0, .int 0, .long 0, .long 1])), (((u 0)), .inl (cy 9, 4, .inr (.inr (.inr (.inr (va_up (va_up (va_up (va_up (fun _ => none) 0 (some ((u 10)))) 1 (some ((u 11)))) 2 (some ((u 12)))) 3 (some ((u 13))))))))), (((u 10)), .inr (10, [.ref ((u 14)), .int (-1), .int 0])), (((u 11)), .inr (10, [.ref ((u 15)), .int (-1), .int 0])), (((u 12)), .inr (10, [.ref ((u 16)), .int (-1), .int 0])), (((u 13)), .inr (10, [.ref ((u 17)), .int (-1), .int 0])), (((u 3)), .inr (0, [.ref ((u 57)), .ref ((u 58)), .ref ((u 59)), .ref ((u 60)), .ref ((u 61)), .int 0, .int 0])), (((u 57)), .inl (cy 7, 3, .inr (.inr (.inr (.inr (va_up (va_up (va_up (fun _ => none) 0 (some ((u 62)))) 1 (some ((u 63)))) 2 (some ((u 64))))))))), (((u 62)), .inr (6, [.ref ((u 88)), .ref ((u 89)), .ref ((u 90)), .ref ((u 91)), .ref ((u 92)), .ref ((u 93)), .ref ((u 94)), .ref ((u 95)), .ref ((u 96)), .ref ((u 97)), .ref ((u 98)), .ref ((u 99)), .ref ((u 100)), .ref ((u 101)), .int 0, .int 0, .int 0, .int 0, .int 0])), (((u 63)), .inr (6, [.ref ((u 102)), .ref ((u 103)), .ref ((u 104)), .ref ((u 105)), .ref ((u 106)), .ref ((u 107)), .ref ((u 108)), .ref ((u 109)), .ref ((u 110)), .ref ((u 111)), .ref ((u 112)), .ref ((u 113)), .ref ((u 114)), .ref ((u 115)), .int 0, .int 0, .int 0, .int 0, .int 0])), (((u 64)), .inr (6, [.ref ((u 116)), .ref ((u 117)), .ref ((u 118)), .ref ((u 119)), .ref ((u 120)), .ref ((u 121)), .ref ((u 122)), .ref ((u 123)), .ref ((u 124)), .ref ((u 125)), .ref ((u 126)), .ref ((u 127)), .ref ((u 128)), .ref ((u 129)), .int 0, .int 0, .int 0, .int 0, .int 0])), (r, .inr (12, (.ref ((v 0)) :: .int 0 :: .long 0 :: .long 1 :: .ref ((v 1)) :: .ref ((v 2)) :: .ref ((v 3)) :: .ref ((v 4)) :: .ref ((v 5)) :: .int 0 :: .int 0 :: .int 0 :: .int 0 :: .int 0 :: .int 0 :: .int (-1) :: .int (-1) :: .int 0 :: .ref ((v 6)) :: .int 0 :: .int 0 :: .ref ((v 7)) :: .ref ((v 8)) :: .ref ((v 9)) :: .ref ((v 10)) :: .ref ((v 11)) :: .ref ((v 12)) :: .ref ((v 13)) :: .int 0 :: .int 0 :: .int (-1) :: .int 0 :: .int (-1) :: .int 0 :: .ref ((v 14)) :: .int 0 :: .int 0 :: .int 0 :: .int 0 :: .int 0 :: .ref ((v 15)) :: .ref ((v 16)) :: .int 0 :: .int (-1) :: .int 0 :: .int 0 :: .int 0 :: .int 0 :: .ref ((v 17)) :: .ref ((v 18)) :: .ref ((v 19)) :: .int 0 :: .ref ((v 20)) :: .ref ((v 21)) :: .int 0 :: .ref ((v 22)) :: .int (-1) :: .int 0 :: .ref ((v 23)) :: .int (-1) :: .int (-1) :: .int 0 :: .ref ((v 24)) :: .ref ((v 25)) :: .int 0 :: []))), (((v 0)), .inl (cy 2, 25710, .inr (.inl (fun _ => 0)))), (((v 2)), .inl (cy 1, 4, .inl (upd (upd (upd (upd (fun _ => 0) 0 (-1)) 1 (-1)) 2 (-1)) 3 (-1))))]) s H locs := h.sub [0, 1, 4, 6, 8, 10, 34, 35, 40, 55, 70, 146, 147, 149] (by decide +kernel) rfl
  refine lv_aload_n F.1 F.2.1 dL_law_1523 rfl (lv_at hl 2 rfl) ?_
  refine lv_aload_n F.1 F.2.1 dL_law_1524 rfl (lv_at hl 3 rfl) ?_
  refine lv_iload_n F.1 F.2.1 dL_law_1525 rfl (lv_at hl 0 rfl) ?_
  refine lv_iconst (v := 1) F.1 F.2.1 dL_law_1526 (by decide) ?_
  refine lv_iadd F.1 F.2.1 dL_law_1527 ?_
  refine x_topi (y := 1) (by decide +kernel) ?_
  refine va_sld F.1 F.2.1 hX hbl hbA h.2.2.2.1 (x_in (by decide +kernel)) dL_law_1528 ?_
  refine x_topi (y := (xs 1)) rfl ?_
  refine lv_aload_n F.1 F.2.1 dL_law_1529 rfl (lv_at hl 3 rfl) ?_
  refine lv_iload_n F.1 F.2.1 dL_law_1530 rfl (lv_at hl 0 rfl) ?_
  refine lv_iconst (v := 2) F.1 F.2.1 dL_law_1531 (by decide) ?_
  refine lv_iadd F.1 F.2.1 dL_law_1532 ?_
  refine x_topi (y := 2) (by decide +kernel) ?_
  refine va_sld F.1 F.2.1 hX hbl hbA h.2.2.2.1 (x_in (by decide +kernel)) dL_law_1533 ?_
  refine x_topi (y := (xs 2)) rfl ?_
  refine lv_aload_n F.1 F.2.1 dL_law_1534 rfl (lv_at hl 3 rfl) ?_
  refine lv_iload_n F.1 F.2.1 dL_law_1535 rfl (lv_at hl 0 rfl) ?_
  refine lv_iconst (v := 3) F.1 F.2.1 dL_law_1536 (by decide) ?_
  refine lv_iadd F.1 F.2.1 dL_law_1537 ?_
  refine x_topi (y := 3) (by decide +kernel) ?_
  refine va_sld F.1 F.2.1 hX hbl hbA h.2.2.2.1 (x_in (by decide +kernel)) dL_law_1538 ?_
  refine x_topi (y := (xs 3)) rfl ?_
  refine x_Vi (wr := [(r, .inr (12, (.ref ((v 0)) :: .int 0 :: .long 0 :: .long 1 :: .ref ((v 1)) :: .ref ((v 2)) :: .ref ((v 3)) :: .ref ((v 4)) :: .ref ((v 5)) :: .int 0 :: .int 0 :: .int 0 :: .int 0 :: .int 0 :: .int 0 :: .int (-1) :: .int (-1) :: .int 0 :: .ref ((v 6)) :: .int 0 :: .int 0 :: .ref ((v 7)) :: .ref ((v 8)) :: .ref ((v 9)) :: .ref ((v 10)) :: .ref ((v 11)) :: .ref ((v 12)) :: .ref ((v 13)) :: .int 0 :: .int 0 :: .int (-1) :: .int 0 :: .int (-1) :: .int 0 :: .ref ((v 14)) :: .int 0 :: .int 0 :: .int 0 :: .int 0 :: .int 0 :: .ref ((v 15)) :: .ref ((v 16)) :: .int 0 :: .int (-1) :: .int 0 :: .int 0 :: .int 0 :: .int 0 :: .ref ((v 17)) :: .ref ((v 18)) :: .ref ((v 19)) :: .int 0 :: .ref ((v 20)) :: .ref ((v 21)) :: .int 0 :: .ref ((v 22)) :: .int (-1) :: .int 0 :: .ref ((v 23)) :: .int (-1) :: .int (-1) :: .int 0 :: .ref ((v 24)) :: .ref ((v 25)) :: .int 0 :: []))), (((v 0)), .inl (cy 2, 25710, .inr (.inl (fun _ => 0)))), (((v 2)), .inl (cy 1, 4, .inl (upd (upd (upd (upd (fun _ => 0) 0 (-1)) 1 (-1)) 2 (-1)) 3 (-1))))]) F h yk_X11_least mw_1446 mw_1447 mw_1448 (c_least l D cy q u ((xs 1)) ((xs 2)) ((xs 3))) [0, 1, 2, 3, 4, 5, 6, 7, 8, 9, 10] [11, 12, 13] 0 rfl (by decide +kernel) rfl rfl (by decide) rfl rfl hl.1 rfl (Nat.le_of_ble_eq_true rfl) ⟨Nat.le_of_ble_eq_true rfl, Nat.le_of_ble_eq_true rfl⟩ ⟨Nat.le_of_ble_eq_true rfl, Nat.le_of_ble_eq_true rfl⟩ dL_law_1539 (fun r2 u3 H locs hp1 h => ?_)
  have h : xS D cy A s.heap ([(r, .inr (12, (.ref ((v 0)) :: .int 0 :: .long 0 :: .long 1 :: .ref ((v 1)) :: .ref ((v 2)) :: .ref ((v 3)) :: .ref ((v 4)) :: .ref ((v 5)) :: .int 0 :: .int 0 :: .int 0 :: .int 0 :: .int 0 :: .int 0 :: .int (-1) :: .int (-1) :: .int 0 :: .ref ((v 6)) :: .int 0 :: .int 0 :: .ref ((v 7)) :: .ref ((v 8)) :: .ref ((v 9)) :: .ref ((v 10)) :: .ref ((v 11)) :: .ref ((v 12)) :: .ref ((v 13)) :: .int 0 :: .int 0 :: .int (-1) :: .int 0 :: .int (-1) :: .int 0 :: .ref ((v 14)) :: .int 0 :: .int 0 :: .int 0 :: .int 0 :: .int 0 :: .ref ((v 15)) :: .ref ((v 16)) :: .int 0 :: .int (-1) :: .int 0 :: .int 0 :: .int 0 :: .int 0 :: .ref ((v 17)) :: .ref ((v 18)) :: .ref ((v 19)) :: .int 0 :: .ref ((v 20)) :: .ref ((v 21)) :: .int 0 :: .ref ((v 22)) :: .int (-1) :: .int 0 :: .ref ((v 23)) :: .int (-1) :: .int (-1) :: .int 0 :: .ref ((v 24)) :: .ref ((v 25)) :: .int 0 :: []))), (((v 0)), .inl (cy 2, 25710, .inr (.inl (fun _ => 0)))), (((v 2)), .inl (cy 1, 4, .inl (upd (upd (upd (upd (fun _ => 0) 0 (-1)) 1 (-1)) 2 (-1)) 3 (-1))))]) s H locs := h
  obtain rfl : r2 = (-1) := hp1
  refine lv_aload_n F.1 F.2.1 dL_law_1542 rfl (lv_at hl 1 rfl) ?_
  refine lv_aload_n F.1 F.2.1 dL_law_1543 rfl (lv_at hl 3 rfl) ?_
  refine lv_iload_n F.1 F.2.1 dL_law_1544 rfl (lv_at hl 0 rfl) ?_
  refine lv_iconst (v := 1) F.1 F.2.1 dL_law_1545 (by decide) ?_
  refine lv_iadd F.1 F.2.1 dL_law_1546 ?_
  refine x_topi (y := 1) (by decide +kernel) ?_
  refine va_sld F.1 F.2.1 hX hbl hbA h.2.2.2.1 (x_in (by decide +kernel)) dL_law_1547 ?_
  refine x_topi (y := (xs 1)) rfl ?_
  refine lv_aload_n F.1 F.2.1 dL_law_1548 rfl (lv_at hl 3 rfl) ?_
  refine lv_iload_n F.1 F.2.1 dL_law_1549 rfl (lv_at hl 0 rfl) ?_
  refine lv_iconst (v := 2) F.1 F.2.1 dL_law_1550 (by decide) ?_
  refine lv_iadd F.1 F.2.1 dL_law_1551 ?_
  refine x_topi (y := 2) (by decide +kernel) ?_
  refine va_sld F.1 F.2.1 hX hbl hbA h.2.2.2.1 (x_in (by decide +kernel)) dL_law_1552 ?_
  refine x_topi (y := (xs 2)) rfl ?_
  refine lv_aload_n F.1 F.2.1 dL_law_1553 rfl (lv_at hl 3 rfl) ?_
  refine lv_iload_n F.1 F.2.1 dL_law_1554 rfl (lv_at hl 0 rfl) ?_
  refine lv_iconst (v := 3) F.1 F.2.1 dL_law_1555 (by decide) ?_
  refine lv_iadd F.1 F.2.1 dL_law_1556 ?_
  refine x_topi (y := 3) (by decide +kernel) ?_
  refine va_sld F.1 F.2.1 hX hbl hbA h.2.2.2.1 (x_in (by decide +kernel)) dL_law_1557 ?_
  refine x_topi (y := (xs 3)) rfl ?_
  refine x_Vi (wr := []) F h yk_X12_least mw_1466 mw_1467 mw_1468 (c_m_least l D cy r v ((xs 1)) ((xs 2)) ((xs 3))) [0, 1, 2] [] 0 rfl rfl rfl rfl (by decide) rfl rfl hl.1 rfl (Nat.le_of_ble_eq_true rfl) ⟨Nat.le_of_ble_eq_true rfl, Nat.le_of_ble_eq_true rfl⟩ ⟨Nat.le_of_ble_eq_true rfl, Nat.le_of_ble_eq_true rfl⟩ dL_law_1558 (fun r5 u6 H locs hp4 h => ?_)
  have h : xS D cy A s.heap ([]) s H locs := h
  obtain rfl : r5 = (-1) := hp4
  refine lv_icmp_eq (tgt := 1763) F.1 F.2.1 dL_law_1561 (by decide) (fun _ => ?_) (fun hc => absurd (by decide) hc)
  exact law_end F hr hlocks hX hbl hAs h (lv_sub hl [0, 3] rfl)
set_option maxHeartbeats 4000000 in
set_option maxRecDepth 100000 in
theorem law_c36 {p : Program} {l : Launch} {e : Env} {s : State} {m : MethodId} {below : List Frame} {meth : Method} {c : Code} {b : Nat} {xs : Nat → Int32} {D : va_G} {cy : Nat → ClassId} {A : Nat → Prop} {H : Heap} {locs : List Loc} {ls : Array Slot} {q r : Nat} {u v : Nat → Nat} (F : CallFix p m c cL_law 4 s #[Value.ref b] wsL_law RL) (hr : meth.sig.returnType = ret) (hlocks : meth.locks = false) (hX : va_X b 6 xs s s.heap) (hbl : b < s.heap.size) (hAs : ∀ q, A q → s.heap.size ≤ q) (h : xS D cy A s.heap (askW cy q u ++ modW cy r v) s H locs) (hl : lv_has ls 4 [(3, .int 0), (2, .ref r), (1, .ref q), (0, .ref b)]) : W p l e room_1 s m #[Value.ref b] below meth c H locs 857 99087 (lw_Z below #[Value.ref b] s) (F0 m 1566 ls []) := by
  have hbA : ¬ A b := fun ha => absurd (hAs b ha) (Nat.not_le.mpr hbl)
  have h : xS D cy A s.heap ([(q, .inr (11, [.ref ((u 0)), .ref ((u 1)), .ref ((u 2)), .ref ((u 3)), .ref ((u 4)), .ref ((u 5)), .ref ((u 6)), .ref ((u 7)), .ref ((u 8)), .ref ((u 9)), .int 0, .int 0, .int (-1), .int 0, .int 0, .long 0, .long 1])), (((u 6)), .inr (7, [.ref ((u 25)), .ref ((u 26)), .ref ((u 27)), .ref ((u 28)), .int 0, .int (-1), .int (-1), .int 0, .int (-1), .int (-1), .int (-1), .ref ((u 29)), .ref ((u 30)), .ref ((u 31)), .ref ((u 32)), .ref ((u 33)), .null])), (r, .inr (12, (.ref ((v 0)) :: .int 0 :: .long 0 :: .long 1 :: .ref ((v 1)) :: .ref ((v 2)) :: .ref ((v 3)) :: .ref ((v 4)) :: .ref ((v 5)) :: .int 0 :: .int 0 :: .int 0 :: .int 0 :: .int 0 :: .int 0 :: .int (-1) :: .int (-1) :: .int 0 :: .ref ((v 6)) :: .int 0 :: .int 0 :: .ref ((v 7)) :: .ref ((v 8)) :: .ref ((v 9)) :: .ref ((v 10)) :: .ref ((v 11)) :: .ref ((v 12)) :: .ref ((v 13)) :: .int 0 :: .int 0 :: .int (-1) :: .int 0 :: .int (-1) :: .int 0 :: .ref ((v 14)) :: .int 0 :: .int 0 :: .int 0 :: .int 0 :: .int 0 :: .ref ((v 15)) :: .ref ((v 16)) :: .int 0 :: .int (-1) :: .int 0 :: .int 0 :: .int 0 :: .int 0 :: .ref ((v 17)) :: .ref ((v 18)) :: .ref ((v 19)) :: .int 0 :: .ref ((v 20)) :: .ref ((v 21)) :: .int 0 :: .ref ((v 22)) :: .int (-1) :: .int 0 :: .ref ((v 23)) :: .int (-1) :: .int (-1) :: .int 0 :: .ref ((v 24)) :: .ref ((v 25)) :: .int 0 :: [])))]) s H locs := h.sub [0, 13, 146] (by decide +kernel) rfl
  refine lv_aload_n F.1 F.2.1 dL_law_1566 rfl (lv_at hl 2 rfl) ?_
  refine x_Vi (wr := [(r, .inr (12, (.ref ((v 0)) :: .int 0 :: .long 0 :: .long 1 :: .ref ((v 1)) :: .ref ((v 2)) :: .ref ((v 3)) :: .ref ((v 4)) :: .ref ((v 5)) :: .int 0 :: .int 0 :: .int 0 :: .int 0 :: .int 0 :: .int 0 :: .int (-1) :: .int (-1) :: .int 0 :: .ref ((v 6)) :: .int 0 :: .int 0 :: .ref ((v 7)) :: .ref ((v 8)) :: .ref ((v 9)) :: .ref ((v 10)) :: .ref ((v 11)) :: .ref ((v 12)) :: .ref ((v 13)) :: .int 0 :: .int 0 :: .int (-1) :: .int 0 :: .int (-1) :: .int 0 :: .ref ((v 14)) :: .int 0 :: .int 0 :: .int 0 :: .int 0 :: .int 0 :: .ref ((v 15)) :: .ref ((v 16)) :: .int 0 :: .int (-1) :: .int 0 :: .int 0 :: .int 0 :: .int 0 :: .ref ((v 17)) :: .ref ((v 18)) :: .ref ((v 19)) :: .int 0 :: .ref ((v 20)) :: .ref ((v 21)) :: .int 0 :: .ref ((v 22)) :: .int (-1) :: .int 0 :: .ref ((v 23)) :: .int (-1) :: .int (-1) :: .int 0 :: .ref ((v 24)) :: .ref ((v 25)) :: .int 0 :: [])))]) F h yk_X11_leastSet mw_1477 mw_1478 mw_1479 (c_leastSet l D cy q u ) [0, 1] [2] 0 rfl rfl rfl rfl (by decide) rfl rfl hl.1 rfl (Nat.le_of_ble_eq_true rfl) ⟨Nat.le_of_ble_eq_true rfl, Nat.le_of_ble_eq_true rfl⟩ ⟨Nat.le_of_ble_eq_true rfl, Nat.le_of_ble_eq_true rfl⟩ dL_law_1567 (fun r2 u3 H locs hp1 h => ?_)
  have h : xS D cy A s.heap ([(r, .inr (12, (.ref ((v 0)) :: .int 0 :: .long 0 :: .long 1 :: .ref ((v 1)) :: .ref ((v 2)) :: .ref ((v 3)) :: .ref ((v 4)) :: .ref ((v 5)) :: .int 0 :: .int 0 :: .int 0 :: .int 0 :: .int 0 :: .int 0 :: .int (-1) :: .int (-1) :: .int 0 :: .ref ((v 6)) :: .int 0 :: .int 0 :: .ref ((v 7)) :: .ref ((v 8)) :: .ref ((v 9)) :: .ref ((v 10)) :: .ref ((v 11)) :: .ref ((v 12)) :: .ref ((v 13)) :: .int 0 :: .int 0 :: .int (-1) :: .int 0 :: .int (-1) :: .int 0 :: .ref ((v 14)) :: .int 0 :: .int 0 :: .int 0 :: .int 0 :: .int 0 :: .ref ((v 15)) :: .ref ((v 16)) :: .int 0 :: .int (-1) :: .int 0 :: .int 0 :: .int 0 :: .int 0 :: .ref ((v 17)) :: .ref ((v 18)) :: .ref ((v 19)) :: .int 0 :: .ref ((v 20)) :: .ref ((v 21)) :: .int 0 :: .ref ((v 22)) :: .int (-1) :: .int 0 :: .ref ((v 23)) :: .int (-1) :: .int (-1) :: .int 0 :: .ref ((v 24)) :: .ref ((v 25)) :: .int 0 :: [])))]) s H locs := h
  obtain rfl : r2 = (-1) := hp1
  refine lv_aload_n F.1 F.2.1 dL_law_1570 rfl (lv_at hl 1 rfl) ?_
  refine x_Vi (wr := []) F h yk_X12_leastSet mw_1482 mw_1483 mw_1484 (c_m_leastSet l D cy r v ) [0] [] 0 rfl rfl rfl rfl (by decide) rfl rfl hl.1 rfl (Nat.le_of_ble_eq_true rfl) ⟨Nat.le_of_ble_eq_true rfl, Nat.le_of_ble_eq_true rfl⟩ ⟨Nat.le_of_ble_eq_true rfl, Nat.le_of_ble_eq_true rfl⟩ dL_law_1571 (fun r5 u6 H locs hp4 h => ?_)
  have h : xS D cy A s.heap ([]) s H locs := h
  obtain rfl : r5 = (-1) := hp4
  refine lv_icmp_eq (tgt := 1763) F.1 F.2.1 dL_law_1574 (by decide) (fun _ => ?_) (fun hc => absurd (by decide) hc)
  exact law_end F hr hlocks hX hbl hAs h (lv_sub hl [0, 3] rfl)
set_option maxHeartbeats 4000000 in
set_option maxRecDepth 100000 in
theorem law_c37 {p : Program} {l : Launch} {e : Env} {s : State} {m : MethodId} {below : List Frame} {meth : Method} {c : Code} {b : Nat} {xs : Nat → Int32} {D : va_G} {cy : Nat → ClassId} {A : Nat → Prop} {H : Heap} {locs : List Loc} {ls : Array Slot} {q r : Nat} {u v : Nat → Nat} (F : CallFix p m c cL_law 4 s #[Value.ref b] wsL_law RL) (hr : meth.sig.returnType = ret) (hlocks : meth.locks = false) (hX : va_X b 6 xs s s.heap) (hbl : b < s.heap.size) (hAs : ∀ q, A q → s.heap.size ≤ q) (h : xS D cy A s.heap (askW cy q u ++ modW cy r v) s H locs) (hl : lv_has ls 4 [(3, .int 0), (2, .ref r), (1, .ref q), (0, .ref b)]) : W p l e room_1 s m #[Value.ref b] below meth c H locs 857 99087 (lw_Z below #[Value.ref b] s) (F0 m 1579 ls []) := by
  have hbA : ¬ A b := fun ha => absurd (hAs b ha) (Nat.not_le.mpr hbl)
  have h : xS D cy A s.heap ([(q, .inr (11, [.ref ((u 0)), .ref ((u 1)), .ref ((u 2)), .ref ((u 3)), .ref ((u 4)), .ref ((u 5)), .ref ((u 6)), .ref ((u 7)), .ref ((u 8)), .ref ((u 9)), .int 0, .int 0, .int (-1), .int 0, .int 0, .long 0, .long 1])), (((u 3)), .inr (0, [.ref ((u 57)), .ref ((u 58)), .ref ((u 59)), .ref ((u 60)), .ref ((u 61)), .int 0, .int 0])), (((u 57)), .inl (cy 7, 3, .inr (.inr (.inr (.inr (va_up (va_up (va_up (fun _ => none) 0 (some ((u 62)))) 1 (some ((u 63)))) 2 (some ((u 64))))))))), (((u 62)), .inr (6, [.ref ((u 88)), .ref ((u 89)), .ref ((u 90)), .ref ((u 91)), .ref ((u 92)), .ref ((u 93)), .ref ((u 94)), .ref ((u 95)), .ref ((u 96)), .ref ((u 97)), .ref ((u 98)), .ref ((u 99)), .ref ((u 100)), .ref ((u 101)), .int 0, .int 0, .int 0, .int 0, .int 0])), (((u 63)), .inr (6, [.ref ((u 102)), .ref ((u 103)), .ref ((u 104)), .ref ((u 105)), .ref ((u 106)), .ref ((u 107)), .ref ((u 108)), .ref ((u 109)), .ref ((u 110)), .ref ((u 111)), .ref ((u 112)), .ref ((u 113)), .ref ((u 114)), .ref ((u 115)), .int 0, .int 0, .int 0, .int 0, .int 0])), (((u 64)), .inr (6, [.ref ((u 116)), .ref ((u 117)), .ref ((u 118)), .ref ((u 119)), .ref ((u 120)), .ref ((u 121)), .ref ((u 122)), .ref ((u 123)), .ref ((u 124)), .ref ((u 125)), .ref ((u 126)), .ref ((u 127)), .ref ((u 128)), .ref ((u 129)), .int 0, .int 0, .int 0, .int 0, .int 0])), (((u 5)), .inr (9, [.ref ((u 21)), .ref ((u 22)), .ref ((u 23)), .ref ((u 24)), .int 0])), (r, .inr (12, (.ref ((v 0)) :: .int 0 :: .long 0 :: .long 1 :: .ref ((v 1)) :: .ref ((v 2)) :: .ref ((v 3)) :: .ref ((v 4)) :: .ref ((v 5)) :: .int 0 :: .int 0 :: .int 0 :: .int 0 :: .int 0 :: .int 0 :: .int (-1) :: .int (-1) :: .int 0 :: .ref ((v 6)) :: .int 0 :: .int 0 :: .ref ((v 7)) :: .ref ((v 8)) :: .ref ((v 9)) :: .ref ((v 10)) :: .ref ((v 11)) :: .ref ((v 12)) :: .ref ((v 13)) :: .int 0 :: .int 0 :: .int (-1) :: .int 0 :: .int (-1) :: .int 0 :: .ref ((v 14)) :: .int 0 :: .int 0 :: .int 0 :: .int 0 :: .int 0 :: .ref ((v 15)) :: .ref ((v 16)) :: .int 0 :: .int (-1) :: .int 0 :: .int 0 :: .int 0 :: .int 0 :: .ref ((v 17)) :: .ref ((v 18)) :: .ref ((v 19)) :: .int 0 :: .ref ((v 20)) :: .ref ((v 21)) :: .int 0 :: .ref ((v 22)) :: .int (-1) :: .int 0 :: .ref ((v 23)) :: .int (-1) :: .int (-1) :: .int 0 :: .ref ((v 24)) :: .ref ((v 25)) :: .int 0 :: []))), (((v 0)), .inl (cy 2, 25710, .inr (.inl (fun _ => 0))))]) s H locs := h.sub [0, 34, 35, 40, 55, 70, 12, 146, 147] (by decide +kernel) rfl
  refine lv_aload_n F.1 F.2.1 dL_law_1579 rfl (lv_at hl 2 rfl) ?_
  refine lv_aload_n F.1 F.2.1 dL_law_1580 rfl (lv_at hl 3 rfl) ?_
  refine lv_iload_n F.1 F.2.1 dL_law_1581 rfl (lv_at hl 0 rfl) ?_
  refine lv_iconst (v := 1) F.1 F.2.1 dL_law_1582 (by decide) ?_
  refine lv_iadd F.1 F.2.1 dL_law_1583 ?_
  refine x_topi (y := 1) (by decide +kernel) ?_
  refine va_sld F.1 F.2.1 hX hbl hbA h.2.2.2.1 (x_in (by decide +kernel)) dL_law_1584 ?_
  refine x_topi (y := (xs 1)) rfl ?_
  refine x_Vi (wr := [(r, .inr (12, (.ref ((v 0)) :: .int 0 :: .long 0 :: .long 1 :: .ref ((v 1)) :: .ref ((v 2)) :: .ref ((v 3)) :: .ref ((v 4)) :: .ref ((v 5)) :: .int 0 :: .int 0 :: .int 0 :: .int 0 :: .int 0 :: .int 0 :: .int (-1) :: .int (-1) :: .int 0 :: .ref ((v 6)) :: .int 0 :: .int 0 :: .ref ((v 7)) :: .ref ((v 8)) :: .ref ((v 9)) :: .ref ((v 10)) :: .ref ((v 11)) :: .ref ((v 12)) :: .ref ((v 13)) :: .int 0 :: .int 0 :: .int (-1) :: .int 0 :: .int (-1) :: .int 0 :: .ref ((v 14)) :: .int 0 :: .int 0 :: .int 0 :: .int 0 :: .int 0 :: .ref ((v 15)) :: .ref ((v 16)) :: .int 0 :: .int (-1) :: .int 0 :: .int 0 :: .int 0 :: .int 0 :: .ref ((v 17)) :: .ref ((v 18)) :: .ref ((v 19)) :: .int 0 :: .ref ((v 20)) :: .ref ((v 21)) :: .int 0 :: .ref ((v 22)) :: .int (-1) :: .int 0 :: .ref ((v 23)) :: .int (-1) :: .int (-1) :: .int 0 :: .ref ((v 24)) :: .ref ((v 25)) :: .int 0 :: []))), (((v 0)), .inl (cy 2, 25710, .inr (.inl (fun _ => 0))))]) F h yk_X11_orders mw_1486 mw_1487 mw_1488 (c_orders l D cy q u ((xs 1))) [0, 1, 2, 3, 4, 5, 6] [7, 8] 0 rfl rfl rfl rfl (by decide) rfl rfl hl.1 rfl (Nat.le_of_ble_eq_true rfl) ⟨Nat.le_of_ble_eq_true rfl, Nat.le_of_ble_eq_true rfl⟩ ⟨Nat.le_of_ble_eq_true rfl, Nat.le_of_ble_eq_true rfl⟩ dL_law_1585 (fun r2 u3 H locs hp1 h => ?_)
  have h : xS D cy A s.heap ([(r, .inr (12, (.ref ((v 0)) :: .int 0 :: .long 0 :: .long 1 :: .ref ((v 1)) :: .ref ((v 2)) :: .ref ((v 3)) :: .ref ((v 4)) :: .ref ((v 5)) :: .int 0 :: .int 0 :: .int 0 :: .int 0 :: .int 0 :: .int 0 :: .int (-1) :: .int (-1) :: .int 0 :: .ref ((v 6)) :: .int 0 :: .int 0 :: .ref ((v 7)) :: .ref ((v 8)) :: .ref ((v 9)) :: .ref ((v 10)) :: .ref ((v 11)) :: .ref ((v 12)) :: .ref ((v 13)) :: .int 0 :: .int 0 :: .int (-1) :: .int 0 :: .int (-1) :: .int 0 :: .ref ((v 14)) :: .int 0 :: .int 0 :: .int 0 :: .int 0 :: .int 0 :: .ref ((v 15)) :: .ref ((v 16)) :: .int 0 :: .int (-1) :: .int 0 :: .int 0 :: .int 0 :: .int 0 :: .ref ((v 17)) :: .ref ((v 18)) :: .ref ((v 19)) :: .int 0 :: .ref ((v 20)) :: .ref ((v 21)) :: .int 0 :: .ref ((v 22)) :: .int (-1) :: .int 0 :: .ref ((v 23)) :: .int (-1) :: .int (-1) :: .int 0 :: .ref ((v 24)) :: .ref ((v 25)) :: .int 0 :: []))), (((v 0)), .inl (cy 2, 25710, .inr (.inl (fun _ => 0))))]) s H locs := h
  obtain rfl : r2 = (-1) := hp1
  refine lv_aload_n F.1 F.2.1 dL_law_1588 rfl (lv_at hl 1 rfl) ?_
  refine lv_aload_n F.1 F.2.1 dL_law_1589 rfl (lv_at hl 3 rfl) ?_
  refine lv_iload_n F.1 F.2.1 dL_law_1590 rfl (lv_at hl 0 rfl) ?_
  refine lv_iconst (v := 1) F.1 F.2.1 dL_law_1591 (by decide) ?_
  refine lv_iadd F.1 F.2.1 dL_law_1592 ?_
  refine x_topi (y := 1) (by decide +kernel) ?_
  refine va_sld F.1 F.2.1 hX hbl hbA h.2.2.2.1 (x_in (by decide +kernel)) dL_law_1593 ?_
  refine x_topi (y := (xs 1)) rfl ?_
  refine x_Vi (wr := []) F h yk_X12_orders mw_1513 mw_1514 mw_1515 (c_m_orders l D cy r v ((xs 1))) [0, 1] [] 0 rfl rfl rfl rfl (by decide) rfl rfl hl.1 rfl (Nat.le_of_ble_eq_true rfl) ⟨Nat.le_of_ble_eq_true rfl, Nat.le_of_ble_eq_true rfl⟩ ⟨Nat.le_of_ble_eq_true rfl, Nat.le_of_ble_eq_true rfl⟩ dL_law_1594 (fun r5 u6 H locs hp4 h => ?_)
  have h : xS D cy A s.heap ([]) s H locs := h
  obtain rfl : r5 = (-1) := hp4
  refine lv_icmp_eq (tgt := 1763) F.1 F.2.1 dL_law_1597 (by decide) (fun _ => ?_) (fun hc => absurd (by decide) hc)
  exact law_end F hr hlocks hX hbl hAs h (lv_sub hl [0, 3] rfl)
set_option maxHeartbeats 4000000 in
set_option maxRecDepth 100000 in
theorem law_c38 {p : Program} {l : Launch} {e : Env} {s : State} {m : MethodId} {below : List Frame} {meth : Method} {c : Code} {b : Nat} {xs : Nat → Int32} {D : va_G} {cy : Nat → ClassId} {A : Nat → Prop} {H : Heap} {locs : List Loc} {ls : Array Slot} {q r : Nat} {u v : Nat → Nat} (F : CallFix p m c cL_law 4 s #[Value.ref b] wsL_law RL) (hr : meth.sig.returnType = ret) (hlocks : meth.locks = false) (hX : va_X b 6 xs s s.heap) (hbl : b < s.heap.size) (hAs : ∀ q, A q → s.heap.size ≤ q) (h : xS D cy A s.heap (askW cy q u ++ modW cy r v) s H locs) (hl : lv_has ls 4 [(3, .int 0), (2, .ref r), (1, .ref q), (0, .ref b)]) : W p l e room_1 s m #[Value.ref b] below meth c H locs 857 99087 (lw_Z below #[Value.ref b] s) (F0 m 1602 ls []) := by
  have hbA : ¬ A b := fun ha => absurd (hAs b ha) (Nat.not_le.mpr hbl)
  have h : xS D cy A s.heap ([(q, .inr (11, [.ref ((u 0)), .ref ((u 1)), .ref ((u 2)), .ref ((u 3)), .ref ((u 4)), .ref ((u 5)), .ref ((u 6)), .ref ((u 7)), .ref ((u 8)), .ref ((u 9)), .int 0, .int 0, .int (-1), .int 0, .int 0, .long 0, .long 1])), (((u 6)), .inr (7, [.ref ((u 25)), .ref ((u 26)), .ref ((u 27)), .ref ((u 28)), .int 0, .int (-1), .int (-1), .int 0, .int (-1), .int (-1), .int (-1), .ref ((u 29)), .ref ((u 30)), .ref ((u 31)), .ref ((u 32)), .ref ((u 33)), .null])), (r, .inr (12, (.ref ((v 0)) :: .int 0 :: .long 0 :: .long 1 :: .ref ((v 1)) :: .ref ((v 2)) :: .ref ((v 3)) :: .ref ((v 4)) :: .ref ((v 5)) :: .int 0 :: .int 0 :: .int 0 :: .int 0 :: .int 0 :: .int 0 :: .int (-1) :: .int (-1) :: .int 0 :: .ref ((v 6)) :: .int 0 :: .int 0 :: .ref ((v 7)) :: .ref ((v 8)) :: .ref ((v 9)) :: .ref ((v 10)) :: .ref ((v 11)) :: .ref ((v 12)) :: .ref ((v 13)) :: .int 0 :: .int 0 :: .int (-1) :: .int 0 :: .int (-1) :: .int 0 :: .ref ((v 14)) :: .int 0 :: .int 0 :: .int 0 :: .int 0 :: .int 0 :: .ref ((v 15)) :: .ref ((v 16)) :: .int 0 :: .int (-1) :: .int 0 :: .int 0 :: .int 0 :: .int 0 :: .ref ((v 17)) :: .ref ((v 18)) :: .ref ((v 19)) :: .int 0 :: .ref ((v 20)) :: .ref ((v 21)) :: .int 0 :: .ref ((v 22)) :: .int (-1) :: .int 0 :: .ref ((v 23)) :: .int (-1) :: .int (-1) :: .int 0 :: .ref ((v 24)) :: .ref ((v 25)) :: .int 0 :: [])))]) s H locs := h.sub [0, 13, 146] (by decide +kernel) rfl
  refine lv_aload_n F.1 F.2.1 dL_law_1602 rfl (lv_at hl 2 rfl) ?_
  refine lv_aload_n F.1 F.2.1 dL_law_1603 rfl (lv_at hl 3 rfl) ?_
  refine lv_iload_n F.1 F.2.1 dL_law_1604 rfl (lv_at hl 0 rfl) ?_
  refine lv_iconst (v := 1) F.1 F.2.1 dL_law_1605 (by decide) ?_
  refine lv_iadd F.1 F.2.1 dL_law_1606 ?_
  refine x_topi (y := 1) (by decide +kernel) ?_
  refine va_sld F.1 F.2.1 hX hbl hbA h.2.2.2.1 (x_in (by decide +kernel)) dL_law_1607 ?_
  refine x_topi (y := (xs 1)) rfl ?_
  refine lv_aload_n F.1 F.2.1 dL_law_1608 rfl (lv_at hl 3 rfl) ?_
  refine lv_iload_n F.1 F.2.1 dL_law_1609 rfl (lv_at hl 0 rfl) ?_
  refine lv_iconst (v := 2) F.1 F.2.1 dL_law_1610 (by decide) ?_
  refine lv_iadd F.1 F.2.1 dL_law_1611 ?_
  refine x_topi (y := 2) (by decide +kernel) ?_
  refine va_sld F.1 F.2.1 hX hbl hbA h.2.2.2.1 (x_in (by decide +kernel)) dL_law_1612 ?_
  refine x_topi (y := (xs 2)) rfl ?_
  refine x_Vi (wr := [(r, .inr (12, (.ref ((v 0)) :: .int 0 :: .long 0 :: .long 1 :: .ref ((v 1)) :: .ref ((v 2)) :: .ref ((v 3)) :: .ref ((v 4)) :: .ref ((v 5)) :: .int 0 :: .int 0 :: .int 0 :: .int 0 :: .int 0 :: .int 0 :: .int (-1) :: .int (-1) :: .int 0 :: .ref ((v 6)) :: .int 0 :: .int 0 :: .ref ((v 7)) :: .ref ((v 8)) :: .ref ((v 9)) :: .ref ((v 10)) :: .ref ((v 11)) :: .ref ((v 12)) :: .ref ((v 13)) :: .int 0 :: .int 0 :: .int (-1) :: .int 0 :: .int (-1) :: .int 0 :: .ref ((v 14)) :: .int 0 :: .int 0 :: .int 0 :: .int 0 :: .int 0 :: .ref ((v 15)) :: .ref ((v 16)) :: .int 0 :: .int (-1) :: .int 0 :: .int 0 :: .int 0 :: .int 0 :: .ref ((v 17)) :: .ref ((v 18)) :: .ref ((v 19)) :: .int 0 :: .ref ((v 20)) :: .ref ((v 21)) :: .int 0 :: .ref ((v 22)) :: .int (-1) :: .int 0 :: .ref ((v 23)) :: .int (-1) :: .int (-1) :: .int 0 :: .ref ((v 24)) :: .ref ((v 25)) :: .int 0 :: [])))]) F h yk_X11_ahead mw_1522 mw_1523 mw_1524 (c_ahead l D cy q u ((xs 1)) ((xs 2))) [0, 1] [2] 0 rfl rfl rfl rfl (by decide) rfl rfl hl.1 rfl (Nat.le_of_ble_eq_true rfl) ⟨Nat.le_of_ble_eq_true rfl, Nat.le_of_ble_eq_true rfl⟩ ⟨Nat.le_of_ble_eq_true rfl, Nat.le_of_ble_eq_true rfl⟩ dL_law_1613 (fun r2 u3 H locs hp1 h => ?_)
  have h : xS D cy A s.heap ([(r, .inr (12, (.ref ((v 0)) :: .int 0 :: .long 0 :: .long 1 :: .ref ((v 1)) :: .ref ((v 2)) :: .ref ((v 3)) :: .ref ((v 4)) :: .ref ((v 5)) :: .int 0 :: .int 0 :: .int 0 :: .int 0 :: .int 0 :: .int 0 :: .int (-1) :: .int (-1) :: .int 0 :: .ref ((v 6)) :: .int 0 :: .int 0 :: .ref ((v 7)) :: .ref ((v 8)) :: .ref ((v 9)) :: .ref ((v 10)) :: .ref ((v 11)) :: .ref ((v 12)) :: .ref ((v 13)) :: .int 0 :: .int 0 :: .int (-1) :: .int 0 :: .int (-1) :: .int 0 :: .ref ((v 14)) :: .int 0 :: .int 0 :: .int 0 :: .int 0 :: .int 0 :: .ref ((v 15)) :: .ref ((v 16)) :: .int 0 :: .int (-1) :: .int 0 :: .int 0 :: .int 0 :: .int 0 :: .ref ((v 17)) :: .ref ((v 18)) :: .ref ((v 19)) :: .int 0 :: .ref ((v 20)) :: .ref ((v 21)) :: .int 0 :: .ref ((v 22)) :: .int (-1) :: .int 0 :: .ref ((v 23)) :: .int (-1) :: .int (-1) :: .int 0 :: .ref ((v 24)) :: .ref ((v 25)) :: .int 0 :: [])))]) s H locs := h
  obtain rfl : r2 = (-1) := hp1
  refine lv_aload_n F.1 F.2.1 dL_law_1616 rfl (lv_at hl 1 rfl) ?_
  refine lv_aload_n F.1 F.2.1 dL_law_1617 rfl (lv_at hl 3 rfl) ?_
  refine lv_iload_n F.1 F.2.1 dL_law_1618 rfl (lv_at hl 0 rfl) ?_
  refine lv_iconst (v := 1) F.1 F.2.1 dL_law_1619 (by decide) ?_
  refine lv_iadd F.1 F.2.1 dL_law_1620 ?_
  refine x_topi (y := 1) (by decide +kernel) ?_
  refine va_sld F.1 F.2.1 hX hbl hbA h.2.2.2.1 (x_in (by decide +kernel)) dL_law_1621 ?_
  refine x_topi (y := (xs 1)) rfl ?_
  refine lv_aload_n F.1 F.2.1 dL_law_1622 rfl (lv_at hl 3 rfl) ?_
  refine lv_iload_n F.1 F.2.1 dL_law_1623 rfl (lv_at hl 0 rfl) ?_
  refine lv_iconst (v := 2) F.1 F.2.1 dL_law_1624 (by decide) ?_
  refine lv_iadd F.1 F.2.1 dL_law_1625 ?_
  refine x_topi (y := 2) (by decide +kernel) ?_
  refine va_sld F.1 F.2.1 hX hbl hbA h.2.2.2.1 (x_in (by decide +kernel)) dL_law_1626 ?_
  refine x_topi (y := (xs 2)) rfl ?_
  refine x_Vi (wr := []) F h yk_X12_ahead mw_1528 mw_1529 mw_1530 (c_m_ahead l D cy r v ((xs 1)) ((xs 2))) [0] [] 0 rfl rfl rfl rfl (by decide) rfl rfl hl.1 rfl (Nat.le_of_ble_eq_true rfl) ⟨Nat.le_of_ble_eq_true rfl, Nat.le_of_ble_eq_true rfl⟩ ⟨Nat.le_of_ble_eq_true rfl, Nat.le_of_ble_eq_true rfl⟩ dL_law_1627 (fun r5 u6 H locs hp4 h => ?_)
  have h : xS D cy A s.heap ([]) s H locs := h
  obtain rfl : r5 = (-1) := hp4
  refine lv_icmp_eq (tgt := 1763) F.1 F.2.1 dL_law_1630 (by decide) (fun _ => ?_) (fun hc => absurd (by decide) hc)
  exact law_end F hr hlocks hX hbl hAs h (lv_sub hl [0, 3] rfl)
set_option maxHeartbeats 4000000 in
set_option maxRecDepth 100000 in
theorem law_c39 {p : Program} {l : Launch} {e : Env} {s : State} {m : MethodId} {below : List Frame} {meth : Method} {c : Code} {b : Nat} {xs : Nat → Int32} {D : va_G} {cy : Nat → ClassId} {A : Nat → Prop} {H : Heap} {locs : List Loc} {ls : Array Slot} {q r : Nat} {u v : Nat → Nat} (F : CallFix p m c cL_law 4 s #[Value.ref b] wsL_law RL) (hr : meth.sig.returnType = ret) (hlocks : meth.locks = false) (hX : va_X b 6 xs s s.heap) (hbl : b < s.heap.size) (hAs : ∀ q, A q → s.heap.size ≤ q) (h : xS D cy A s.heap (askW cy q u ++ modW cy r v) s H locs) (hl : lv_has ls 4 [(3, .int 0), (2, .ref r), (1, .ref q), (0, .ref b)]) : W p l e room_1 s m #[Value.ref b] below meth c H locs 857 99087 (lw_Z below #[Value.ref b] s) (F0 m 1635 ls []) := by
  have hbA : ¬ A b := fun ha => absurd (hAs b ha) (Nat.not_le.mpr hbl)
  have h : xS D cy A s.heap ([(q, .inr (11, [.ref ((u 0)), .ref ((u 1)), .ref ((u 2)), .ref ((u 3)), .ref ((u 4)), .ref ((u 5)), .ref ((u 6)), .ref ((u 7)), .ref ((u 8)), .ref ((u 9)), .int 0, .int 0, .int (-1), .int 0, .int 0, .long 0, .long 1])), (((u 5)), .inr (9, [.ref ((u 21)), .ref ((u 22)), .ref ((u 23)), .ref ((u 24)), .int 0])), (r, .inr (12, (.ref ((v 0)) :: .int 0 :: .long 0 :: .long 1 :: .ref ((v 1)) :: .ref ((v 2)) :: .ref ((v 3)) :: .ref ((v 4)) :: .ref ((v 5)) :: .int 0 :: .int 0 :: .int 0 :: .int 0 :: .int 0 :: .int 0 :: .int (-1) :: .int (-1) :: .int 0 :: .ref ((v 6)) :: .int 0 :: .int 0 :: .ref ((v 7)) :: .ref ((v 8)) :: .ref ((v 9)) :: .ref ((v 10)) :: .ref ((v 11)) :: .ref ((v 12)) :: .ref ((v 13)) :: .int 0 :: .int 0 :: .int (-1) :: .int 0 :: .int (-1) :: .int 0 :: .ref ((v 14)) :: .int 0 :: .int 0 :: .int 0 :: .int 0 :: .int 0 :: .ref ((v 15)) :: .ref ((v 16)) :: .int 0 :: .int (-1) :: .int 0 :: .int 0 :: .int 0 :: .int 0 :: .ref ((v 17)) :: .ref ((v 18)) :: .ref ((v 19)) :: .int 0 :: .ref ((v 20)) :: .ref ((v 21)) :: .int 0 :: .ref ((v 22)) :: .int (-1) :: .int 0 :: .ref ((v 23)) :: .int (-1) :: .int (-1) :: .int 0 :: .ref ((v 24)) :: .ref ((v 25)) :: .int 0 :: [])))]) s H locs := h.sub [0, 12, 146] (by decide +kernel) rfl
  refine lv_aload_n F.1 F.2.1 dL_law_1635 rfl (lv_at hl 2 rfl) ?_
  refine lv_aload_n F.1 F.2.1 dL_law_1636 rfl (lv_at hl 3 rfl) ?_
  refine lv_iload_n F.1 F.2.1 dL_law_1637 rfl (lv_at hl 0 rfl) ?_
  refine lv_iconst (v := 1) F.1 F.2.1 dL_law_1638 (by decide) ?_
  refine lv_iadd F.1 F.2.1 dL_law_1639 ?_
  refine x_topi (y := 1) (by decide +kernel) ?_
  refine va_sld F.1 F.2.1 hX hbl hbA h.2.2.2.1 (x_in (by decide +kernel)) dL_law_1640 ?_
  refine x_topi (y := (xs 1)) rfl ?_
  refine lv_aload_n F.1 F.2.1 dL_law_1641 rfl (lv_at hl 3 rfl) ?_
  refine lv_iload_n F.1 F.2.1 dL_law_1642 rfl (lv_at hl 0 rfl) ?_
  refine lv_iconst (v := 2) F.1 F.2.1 dL_law_1643 (by decide) ?_
  refine lv_iadd F.1 F.2.1 dL_law_1644 ?_
  refine x_topi (y := 2) (by decide +kernel) ?_
  refine va_sld F.1 F.2.1 hX hbl hbA h.2.2.2.1 (x_in (by decide +kernel)) dL_law_1645 ?_
  refine x_topi (y := (xs 2)) rfl ?_
  refine lv_if_eq (tgt := 1653) F.1 F.2.1 dL_law_1646 (by decide) (fun hc1 => ?_) (fun hc1 => ?_)
  · refine lv_iconst (v := 0) F.1 F.2.1 dL_law_1653 (by decide) ?_
    refine x_Vi (wr := [(r, .inr (12, (.ref ((v 0)) :: .int 0 :: .long 0 :: .long 1 :: .ref ((v 1)) :: .ref ((v 2)) :: .ref ((v 3)) :: .ref ((v 4)) :: .ref ((v 5)) :: .int 0 :: .int 0 :: .int 0 :: .int 0 :: .int 0 :: .int 0 :: .int (-1) :: .int (-1) :: .int 0 :: .ref ((v 6)) :: .int 0 :: .int 0 :: .ref ((v 7)) :: .ref ((v 8)) :: .ref ((v 9)) :: .ref ((v 10)) :: .ref ((v 11)) :: .ref ((v 12)) :: .ref ((v 13)) :: .int 0 :: .int 0 :: .int (-1) :: .int 0 :: .int (-1) :: .int 0 :: .ref ((v 14)) :: .int 0 :: .int 0 :: .int 0 :: .int 0 :: .int 0 :: .ref ((v 15)) :: .ref ((v 16)) :: .int 0 :: .int (-1) :: .int 0 :: .int 0 :: .int 0 :: .int 0 :: .ref ((v 17)) :: .ref ((v 18)) :: .ref ((v 19)) :: .int 0 :: .ref ((v 20)) :: .ref ((v 21)) :: .int 0 :: .ref ((v 22)) :: .int (-1) :: .int 0 :: .ref ((v 23)) :: .int (-1) :: .int (-1) :: .int 0 :: .ref ((v 24)) :: .ref ((v 25)) :: .int 0 :: [])))]) F h yk_X11_leave mw_1532 mw_1533 mw_1534 (c_leave l D cy q u ((xs 1)) 0) [0, 1] [2] 0 rfl rfl rfl rfl (by decide) rfl rfl hl.1 rfl (Nat.le_of_ble_eq_true rfl) ⟨Nat.le_of_ble_eq_true rfl, Nat.le_of_ble_eq_true rfl⟩ ⟨Nat.le_of_ble_eq_true rfl, Nat.le_of_ble_eq_true rfl⟩ dL_law_1654 (fun r3 u4 H locs hp2 h => ?_)
    have h : xS D cy A s.heap ([(r, .inr (12, (.ref ((v 0)) :: .int 0 :: .long 0 :: .long 1 :: .ref ((v 1)) :: .ref ((v 2)) :: .ref ((v 3)) :: .ref ((v 4)) :: .ref ((v 5)) :: .int 0 :: .int 0 :: .int 0 :: .int 0 :: .int 0 :: .int 0 :: .int (-1) :: .int (-1) :: .int 0 :: .ref ((v 6)) :: .int 0 :: .int 0 :: .ref ((v 7)) :: .ref ((v 8)) :: .ref ((v 9)) :: .ref ((v 10)) :: .ref ((v 11)) :: .ref ((v 12)) :: .ref ((v 13)) :: .int 0 :: .int 0 :: .int (-1) :: .int 0 :: .int (-1) :: .int 0 :: .ref ((v 14)) :: .int 0 :: .int 0 :: .int 0 :: .int 0 :: .int 0 :: .ref ((v 15)) :: .ref ((v 16)) :: .int 0 :: .int (-1) :: .int 0 :: .int 0 :: .int 0 :: .int 0 :: .ref ((v 17)) :: .ref ((v 18)) :: .ref ((v 19)) :: .int 0 :: .ref ((v 20)) :: .ref ((v 21)) :: .int 0 :: .ref ((v 22)) :: .int (-1) :: .int 0 :: .ref ((v 23)) :: .int (-1) :: .int (-1) :: .int 0 :: .ref ((v 24)) :: .ref ((v 25)) :: .int 0 :: [])))]) s H locs := h
    obtain rfl : r3 = 0 := hp2
    refine lv_aload_n F.1 F.2.1 dL_law_1657 rfl (lv_at hl 1 rfl) ?_
    refine lv_aload_n F.1 F.2.1 dL_law_1658 rfl (lv_at hl 3 rfl) ?_
    refine lv_iload_n F.1 F.2.1 dL_law_1659 rfl (lv_at hl 0 rfl) ?_
    refine lv_iconst (v := 1) F.1 F.2.1 dL_law_1660 (by decide) ?_
    refine lv_iadd F.1 F.2.1 dL_law_1661 ?_
    refine x_topi (y := 1) (by decide +kernel) ?_
    refine va_sld F.1 F.2.1 hX hbl hbA h.2.2.2.1 (x_in (by decide +kernel)) dL_law_1662 ?_
    refine x_topi (y := (xs 1)) rfl ?_
    refine lv_aload_n F.1 F.2.1 dL_law_1663 rfl (lv_at hl 3 rfl) ?_
    refine lv_iload_n F.1 F.2.1 dL_law_1664 rfl (lv_at hl 0 rfl) ?_
    refine lv_iconst (v := 2) F.1 F.2.1 dL_law_1665 (by decide) ?_
    refine lv_iadd F.1 F.2.1 dL_law_1666 ?_
    refine x_topi (y := 2) (by decide +kernel) ?_
    refine va_sld F.1 F.2.1 hX hbl hbA h.2.2.2.1 (x_in (by decide +kernel)) dL_law_1667 ?_
    refine x_topi (y := (xs 2)) rfl ?_
    refine lv_if_eq (tgt := 1675) F.1 F.2.1 dL_law_1668 (by decide) (fun hc5 => ?_) (fun hc5 => ?_)
    · refine lv_iconst (v := 0) F.1 F.2.1 dL_law_1675 (by decide) ?_
      refine x_Vi (wr := []) F h yk_X12_leave mw_1537 mw_1538 mw_1539 (c_m_leave l D cy r v ((xs 1)) 0) [0] [] 0 rfl rfl rfl rfl (by decide) rfl rfl hl.1 rfl (Nat.le_of_ble_eq_true rfl) ⟨Nat.le_of_ble_eq_true rfl, Nat.le_of_ble_eq_true rfl⟩ ⟨Nat.le_of_ble_eq_true rfl, Nat.le_of_ble_eq_true rfl⟩ dL_law_1676 (fun r7 u8 H locs hp6 h => ?_)
      have h : xS D cy A s.heap ([]) s H locs := h
      obtain rfl : r7 = 0 := hp6
      refine lv_icmp_eq (tgt := 1763) F.1 F.2.1 dL_law_1679 (by decide) (fun _ => ?_) (fun hc => absurd (by decide) hc)
      exact law_end F hr hlocks hX hbl hAs h (lv_sub hl [0, 3] rfl)
    · refine lv_iconst (v := 1) F.1 F.2.1 dL_law_1671 (by decide) ?_
      refine lv_goto (tgt := 1676) F.1 F.2.1 dL_law_1672 (by decide) ?_
      refine x_Vi (wr := []) F h yk_X12_leave mw_1537 mw_1538 mw_1539 (c_m_leave l D cy r v ((xs 1)) 1) [0] [] 0 rfl rfl rfl rfl (by decide) rfl rfl hl.1 rfl (Nat.le_of_ble_eq_true rfl) ⟨Nat.le_of_ble_eq_true rfl, Nat.le_of_ble_eq_true rfl⟩ ⟨Nat.le_of_ble_eq_true rfl, Nat.le_of_ble_eq_true rfl⟩ dL_law_1676 (fun r10 u11 H locs hp9 h => ?_)
      have h : xS D cy A s.heap ([]) s H locs := h
      obtain rfl : r10 = 0 := hp9
      refine lv_icmp_eq (tgt := 1763) F.1 F.2.1 dL_law_1679 (by decide) (fun _ => ?_) (fun hc => absurd (by decide) hc)
      exact law_end F hr hlocks hX hbl hAs h (lv_sub hl [0, 3] rfl)
  · refine lv_iconst (v := 1) F.1 F.2.1 dL_law_1649 (by decide) ?_
    refine lv_goto (tgt := 1654) F.1 F.2.1 dL_law_1650 (by decide) ?_
    refine x_Vi (wr := [(r, .inr (12, (.ref ((v 0)) :: .int 0 :: .long 0 :: .long 1 :: .ref ((v 1)) :: .ref ((v 2)) :: .ref ((v 3)) :: .ref ((v 4)) :: .ref ((v 5)) :: .int 0 :: .int 0 :: .int 0 :: .int 0 :: .int 0 :: .int 0 :: .int (-1) :: .int (-1) :: .int 0 :: .ref ((v 6)) :: .int 0 :: .int 0 :: .ref ((v 7)) :: .ref ((v 8)) :: .ref ((v 9)) :: .ref ((v 10)) :: .ref ((v 11)) :: .ref ((v 12)) :: .ref ((v 13)) :: .int 0 :: .int 0 :: .int (-1) :: .int 0 :: .int (-1) :: .int 0 :: .ref ((v 14)) :: .int 0 :: .int 0 :: .int 0 :: .int 0 :: .int 0 :: .ref ((v 15)) :: .ref ((v 16)) :: .int 0 :: .int (-1) :: .int 0 :: .int 0 :: .int 0 :: .int 0 :: .ref ((v 17)) :: .ref ((v 18)) :: .ref ((v 19)) :: .int 0 :: .ref ((v 20)) :: .ref ((v 21)) :: .int 0 :: .ref ((v 22)) :: .int (-1) :: .int 0 :: .ref ((v 23)) :: .int (-1) :: .int (-1) :: .int 0 :: .ref ((v 24)) :: .ref ((v 25)) :: .int 0 :: [])))]) F h yk_X11_leave mw_1532 mw_1533 mw_1534 (c_leave l D cy q u ((xs 1)) 1) [0, 1] [2] 0 rfl rfl rfl rfl (by decide) rfl rfl hl.1 rfl (Nat.le_of_ble_eq_true rfl) ⟨Nat.le_of_ble_eq_true rfl, Nat.le_of_ble_eq_true rfl⟩ ⟨Nat.le_of_ble_eq_true rfl, Nat.le_of_ble_eq_true rfl⟩ dL_law_1654 (fun r13 u14 H locs hp12 h => ?_)
    have h : xS D cy A s.heap ([(r, .inr (12, (.ref ((v 0)) :: .int 0 :: .long 0 :: .long 1 :: .ref ((v 1)) :: .ref ((v 2)) :: .ref ((v 3)) :: .ref ((v 4)) :: .ref ((v 5)) :: .int 0 :: .int 0 :: .int 0 :: .int 0 :: .int 0 :: .int 0 :: .int (-1) :: .int (-1) :: .int 0 :: .ref ((v 6)) :: .int 0 :: .int 0 :: .ref ((v 7)) :: .ref ((v 8)) :: .ref ((v 9)) :: .ref ((v 10)) :: .ref ((v 11)) :: .ref ((v 12)) :: .ref ((v 13)) :: .int 0 :: .int 0 :: .int (-1) :: .int 0 :: .int (-1) :: .int 0 :: .ref ((v 14)) :: .int 0 :: .int 0 :: .int 0 :: .int 0 :: .int 0 :: .ref ((v 15)) :: .ref ((v 16)) :: .int 0 :: .int (-1) :: .int 0 :: .int 0 :: .int 0 :: .int 0 :: .ref ((v 17)) :: .ref ((v 18)) :: .ref ((v 19)) :: .int 0 :: .ref ((v 20)) :: .ref ((v 21)) :: .int 0 :: .ref ((v 22)) :: .int (-1) :: .int 0 :: .ref ((v 23)) :: .int (-1) :: .int (-1) :: .int 0 :: .ref ((v 24)) :: .ref ((v 25)) :: .int 0 :: [])))]) s H locs := h
    obtain rfl : r13 = 0 := hp12
    refine lv_aload_n F.1 F.2.1 dL_law_1657 rfl (lv_at hl 1 rfl) ?_
    refine lv_aload_n F.1 F.2.1 dL_law_1658 rfl (lv_at hl 3 rfl) ?_
    refine lv_iload_n F.1 F.2.1 dL_law_1659 rfl (lv_at hl 0 rfl) ?_
    refine lv_iconst (v := 1) F.1 F.2.1 dL_law_1660 (by decide) ?_
    refine lv_iadd F.1 F.2.1 dL_law_1661 ?_
    refine x_topi (y := 1) (by decide +kernel) ?_
    refine va_sld F.1 F.2.1 hX hbl hbA h.2.2.2.1 (x_in (by decide +kernel)) dL_law_1662 ?_
    refine x_topi (y := (xs 1)) rfl ?_
    refine lv_aload_n F.1 F.2.1 dL_law_1663 rfl (lv_at hl 3 rfl) ?_
    refine lv_iload_n F.1 F.2.1 dL_law_1664 rfl (lv_at hl 0 rfl) ?_
    refine lv_iconst (v := 2) F.1 F.2.1 dL_law_1665 (by decide) ?_
    refine lv_iadd F.1 F.2.1 dL_law_1666 ?_
    refine x_topi (y := 2) (by decide +kernel) ?_
    refine va_sld F.1 F.2.1 hX hbl hbA h.2.2.2.1 (x_in (by decide +kernel)) dL_law_1667 ?_
    refine x_topi (y := (xs 2)) rfl ?_
    refine lv_if_eq (tgt := 1675) F.1 F.2.1 dL_law_1668 (by decide) (fun hc15 => ?_) (fun hc15 => ?_)
    · refine lv_iconst (v := 0) F.1 F.2.1 dL_law_1675 (by decide) ?_
      refine x_Vi (wr := []) F h yk_X12_leave mw_1537 mw_1538 mw_1539 (c_m_leave l D cy r v ((xs 1)) 0) [0] [] 0 rfl rfl rfl rfl (by decide) rfl rfl hl.1 rfl (Nat.le_of_ble_eq_true rfl) ⟨Nat.le_of_ble_eq_true rfl, Nat.le_of_ble_eq_true rfl⟩ ⟨Nat.le_of_ble_eq_true rfl, Nat.le_of_ble_eq_true rfl⟩ dL_law_1676 (fun r17 u18 H locs hp16 h => ?_)
      have h : xS D cy A s.heap ([]) s H locs := h
      obtain rfl : r17 = 0 := hp16
      refine lv_icmp_eq (tgt := 1763) F.1 F.2.1 dL_law_1679 (by decide) (fun _ => ?_) (fun hc => absurd (by decide) hc)
      exact law_end F hr hlocks hX hbl hAs h (lv_sub hl [0, 3] rfl)
    · refine lv_iconst (v := 1) F.1 F.2.1 dL_law_1671 (by decide) ?_
      refine lv_goto (tgt := 1676) F.1 F.2.1 dL_law_1672 (by decide) ?_
      refine x_Vi (wr := []) F h yk_X12_leave mw_1537 mw_1538 mw_1539 (c_m_leave l D cy r v ((xs 1)) 1) [0] [] 0 rfl rfl rfl rfl (by decide) rfl rfl hl.1 rfl (Nat.le_of_ble_eq_true rfl) ⟨Nat.le_of_ble_eq_true rfl, Nat.le_of_ble_eq_true rfl⟩ ⟨Nat.le_of_ble_eq_true rfl, Nat.le_of_ble_eq_true rfl⟩ dL_law_1676 (fun r20 u21 H locs hp19 h => ?_)
      have h : xS D cy A s.heap ([]) s H locs := h
      obtain rfl : r20 = 0 := hp19
      refine lv_icmp_eq (tgt := 1763) F.1 F.2.1 dL_law_1679 (by decide) (fun _ => ?_) (fun hc => absurd (by decide) hc)
      exact law_end F hr hlocks hX hbl hAs h (lv_sub hl [0, 3] rfl)
set_option maxHeartbeats 4000000 in
set_option maxRecDepth 100000 in
theorem law_c40 {p : Program} {l : Launch} {e : Env} {s : State} {m : MethodId} {below : List Frame} {meth : Method} {c : Code} {b : Nat} {xs : Nat → Int32} {D : va_G} {cy : Nat → ClassId} {A : Nat → Prop} {H : Heap} {locs : List Loc} {ls : Array Slot} {q r : Nat} {u v : Nat → Nat} (F : CallFix p m c cL_law 4 s #[Value.ref b] wsL_law RL) (hr : meth.sig.returnType = ret) (hlocks : meth.locks = false) (hX : va_X b 6 xs s s.heap) (hbl : b < s.heap.size) (hAs : ∀ q, A q → s.heap.size ≤ q) (h : xS D cy A s.heap (askW cy q u ++ modW cy r v) s H locs) (hl : lv_has ls 4 [(3, .int 0), (2, .ref r), (1, .ref q), (0, .ref b)]) : W p l e room_1 s m #[Value.ref b] below meth c H locs 857 99087 (lw_Z below #[Value.ref b] s) (F0 m 1684 ls []) := by
  have hbA : ¬ A b := fun ha => absurd (hAs b ha) (Nat.not_le.mpr hbl)
  have h : xS D cy A s.heap ([(q, .inr (11, [.ref ((u 0)), .ref ((u 1)), .ref ((u 2)), .ref ((u 3)), .ref ((u 4)), .ref ((u 5)), .ref ((u 6)), .ref ((u 7)), .ref ((u 8)), .ref ((u 9)), .int 0, .int 0, .int (-1), .int 0, .int 0, .long 0, .long 1])), (((u 5)), .inr (9, [.ref ((u 21)), .ref ((u 22)), .ref ((u 23)), .ref ((u 24)), .int 0])), (r, .inr (12, (.ref ((v 0)) :: .int 0 :: .long 0 :: .long 1 :: .ref ((v 1)) :: .ref ((v 2)) :: .ref ((v 3)) :: .ref ((v 4)) :: .ref ((v 5)) :: .int 0 :: .int 0 :: .int 0 :: .int 0 :: .int 0 :: .int 0 :: .int (-1) :: .int (-1) :: .int 0 :: .ref ((v 6)) :: .int 0 :: .int 0 :: .ref ((v 7)) :: .ref ((v 8)) :: .ref ((v 9)) :: .ref ((v 10)) :: .ref ((v 11)) :: .ref ((v 12)) :: .ref ((v 13)) :: .int 0 :: .int 0 :: .int (-1) :: .int 0 :: .int (-1) :: .int 0 :: .ref ((v 14)) :: .int 0 :: .int 0 :: .int 0 :: .int 0 :: .int 0 :: .ref ((v 15)) :: .ref ((v 16)) :: .int 0 :: .int (-1) :: .int 0 :: .int 0 :: .int 0 :: .int 0 :: .ref ((v 17)) :: .ref ((v 18)) :: .ref ((v 19)) :: .int 0 :: .ref ((v 20)) :: .ref ((v 21)) :: .int 0 :: .ref ((v 22)) :: .int (-1) :: .int 0 :: .ref ((v 23)) :: .int (-1) :: .int (-1) :: .int 0 :: .ref ((v 24)) :: .ref ((v 25)) :: .int 0 :: [])))]) s H locs := h.sub [0, 12, 146] (by decide +kernel) rfl
  refine lv_aload_n F.1 F.2.1 dL_law_1684 rfl (lv_at hl 2 rfl) ?_
  refine lv_aload_n F.1 F.2.1 dL_law_1685 rfl (lv_at hl 3 rfl) ?_
  refine lv_iload_n F.1 F.2.1 dL_law_1686 rfl (lv_at hl 0 rfl) ?_
  refine lv_iconst (v := 1) F.1 F.2.1 dL_law_1687 (by decide) ?_
  refine lv_iadd F.1 F.2.1 dL_law_1688 ?_
  refine x_topi (y := 1) (by decide +kernel) ?_
  refine va_sld F.1 F.2.1 hX hbl hbA h.2.2.2.1 (x_in (by decide +kernel)) dL_law_1689 ?_
  refine x_topi (y := (xs 1)) rfl ?_
  refine lv_i2l (v := (((xs 1)).toInt64)) F.1 F.2.1 dL_law_1690 rfl ?_
  refine lv_bipush (v := 32) F.1 F.2.1 dL_law_1691 (by decide) ?_
  refine lv_lshl (v := ((((xs 1)).toInt64) <<< ((32 : Int32).toInt64 &&& 63))) F.1 F.2.1 dL_law_1693 rfl ?_
  refine lv_aload_n F.1 F.2.1 dL_law_1694 rfl (lv_at hl 3 rfl) ?_
  refine lv_iload_n F.1 F.2.1 dL_law_1695 rfl (lv_at hl 0 rfl) ?_
  refine lv_iconst (v := 2) F.1 F.2.1 dL_law_1696 (by decide) ?_
  refine lv_iadd F.1 F.2.1 dL_law_1697 ?_
  refine x_topi (y := 2) (by decide +kernel) ?_
  refine va_sld F.1 F.2.1 hX hbl hbA h.2.2.2.1 (x_in (by decide +kernel)) dL_law_1698 ?_
  refine x_topi (y := (xs 2)) rfl ?_
  refine lv_i2l (v := (((xs 2)).toInt64)) F.1 F.2.1 dL_law_1699 rfl ?_
  refine lv_ldc2 (v := 4294967295) F.1 F.2.1 F.2.2.2.1 (F.2.2.2.2 _ mw_6) dL_law_1700 ?_
  refine lv_land F.1 F.2.1 dL_law_1703 ?_
  refine lv_lor F.1 F.2.1 dL_law_1704 ?_
  refine x_Vi (wr := [(r, .inr (12, (.ref ((v 0)) :: .int 0 :: .long 0 :: .long 1 :: .ref ((v 1)) :: .ref ((v 2)) :: .ref ((v 3)) :: .ref ((v 4)) :: .ref ((v 5)) :: .int 0 :: .int 0 :: .int 0 :: .int 0 :: .int 0 :: .int 0 :: .int (-1) :: .int (-1) :: .int 0 :: .ref ((v 6)) :: .int 0 :: .int 0 :: .ref ((v 7)) :: .ref ((v 8)) :: .ref ((v 9)) :: .ref ((v 10)) :: .ref ((v 11)) :: .ref ((v 12)) :: .ref ((v 13)) :: .int 0 :: .int 0 :: .int (-1) :: .int 0 :: .int (-1) :: .int 0 :: .ref ((v 14)) :: .int 0 :: .int 0 :: .int 0 :: .int 0 :: .int 0 :: .ref ((v 15)) :: .ref ((v 16)) :: .int 0 :: .int (-1) :: .int 0 :: .int 0 :: .int 0 :: .int 0 :: .ref ((v 17)) :: .ref ((v 18)) :: .ref ((v 19)) :: .int 0 :: .ref ((v 20)) :: .ref ((v 21)) :: .int 0 :: .ref ((v 22)) :: .int (-1) :: .int 0 :: .ref ((v 23)) :: .int (-1) :: .int (-1) :: .int 0 :: .ref ((v 24)) :: .ref ((v 25)) :: .int 0 :: [])))]) F h yk_X11_heard mw_1541 mw_1542 mw_1543 (c_heard l D cy q u ((((((xs 1)).toInt64) <<< ((32 : Int32).toInt64 &&& 63))) ||| ((((xs 2)).toInt64) &&& 4294967295))) [0, 1] [2] 0 rfl rfl rfl rfl (by decide) rfl rfl hl.1 rfl (Nat.le_of_ble_eq_true rfl) ⟨Nat.le_of_ble_eq_true rfl, Nat.le_of_ble_eq_true rfl⟩ ⟨Nat.le_of_ble_eq_true rfl, Nat.le_of_ble_eq_true rfl⟩ dL_law_1705 (fun r2 u3 H locs hp1 h => ?_)
  have h : xS D cy A s.heap ([(r, .inr (12, (.ref ((v 0)) :: .int 0 :: .long 0 :: .long 1 :: .ref ((v 1)) :: .ref ((v 2)) :: .ref ((v 3)) :: .ref ((v 4)) :: .ref ((v 5)) :: .int 0 :: .int 0 :: .int 0 :: .int 0 :: .int 0 :: .int 0 :: .int (-1) :: .int (-1) :: .int 0 :: .ref ((v 6)) :: .int 0 :: .int 0 :: .ref ((v 7)) :: .ref ((v 8)) :: .ref ((v 9)) :: .ref ((v 10)) :: .ref ((v 11)) :: .ref ((v 12)) :: .ref ((v 13)) :: .int 0 :: .int 0 :: .int (-1) :: .int 0 :: .int (-1) :: .int 0 :: .ref ((v 14)) :: .int 0 :: .int 0 :: .int 0 :: .int 0 :: .int 0 :: .ref ((v 15)) :: .ref ((v 16)) :: .int 0 :: .int (-1) :: .int 0 :: .int 0 :: .int 0 :: .int 0 :: .ref ((v 17)) :: .ref ((v 18)) :: .ref ((v 19)) :: .int 0 :: .ref ((v 20)) :: .ref ((v 21)) :: .int 0 :: .ref ((v 22)) :: .int (-1) :: .int 0 :: .ref ((v 23)) :: .int (-1) :: .int (-1) :: .int 0 :: .ref ((v 24)) :: .ref ((v 25)) :: .int 0 :: [])))]) s H locs := h
  refine lv_aload_n F.1 F.2.1 dL_law_1708 rfl (lv_at hl 1 rfl) ?_
  refine lv_aload_n F.1 F.2.1 dL_law_1709 rfl (lv_at hl 3 rfl) ?_
  refine lv_iload_n F.1 F.2.1 dL_law_1710 rfl (lv_at hl 0 rfl) ?_
  refine lv_iconst (v := 1) F.1 F.2.1 dL_law_1711 (by decide) ?_
  refine lv_iadd F.1 F.2.1 dL_law_1712 ?_
  refine x_topi (y := 1) (by decide +kernel) ?_
  refine va_sld F.1 F.2.1 hX hbl hbA h.2.2.2.1 (x_in (by decide +kernel)) dL_law_1713 ?_
  refine x_topi (y := (xs 1)) rfl ?_
  refine lv_i2l (v := (((xs 1)).toInt64)) F.1 F.2.1 dL_law_1714 rfl ?_
  refine lv_bipush (v := 32) F.1 F.2.1 dL_law_1715 (by decide) ?_
  refine lv_lshl (v := ((((xs 1)).toInt64) <<< ((32 : Int32).toInt64 &&& 63))) F.1 F.2.1 dL_law_1717 rfl ?_
  refine lv_aload_n F.1 F.2.1 dL_law_1718 rfl (lv_at hl 3 rfl) ?_
  refine lv_iload_n F.1 F.2.1 dL_law_1719 rfl (lv_at hl 0 rfl) ?_
  refine lv_iconst (v := 2) F.1 F.2.1 dL_law_1720 (by decide) ?_
  refine lv_iadd F.1 F.2.1 dL_law_1721 ?_
  refine x_topi (y := 2) (by decide +kernel) ?_
  refine va_sld F.1 F.2.1 hX hbl hbA h.2.2.2.1 (x_in (by decide +kernel)) dL_law_1722 ?_
  refine x_topi (y := (xs 2)) rfl ?_
  refine lv_i2l (v := (((xs 2)).toInt64)) F.1 F.2.1 dL_law_1723 rfl ?_
  refine lv_ldc2 (v := 4294967295) F.1 F.2.1 F.2.2.2.1 (F.2.2.2.2 _ mw_6) dL_law_1724 ?_
  refine lv_land F.1 F.2.1 dL_law_1727 ?_
  refine lv_lor F.1 F.2.1 dL_law_1728 ?_
  refine x_Vi (wr := []) F h yk_X12_heard mw_1553 mw_1554 mw_1555 (c_m_heard l D cy r v ((((((xs 1)).toInt64) <<< ((32 : Int32).toInt64 &&& 63))) ||| ((((xs 2)).toInt64) &&& 4294967295))) [0] [] 0 rfl rfl rfl rfl (by decide) rfl rfl hl.1 rfl (Nat.le_of_ble_eq_true rfl) ⟨Nat.le_of_ble_eq_true rfl, Nat.le_of_ble_eq_true rfl⟩ ⟨Nat.le_of_ble_eq_true rfl, Nat.le_of_ble_eq_true rfl⟩ dL_law_1729 (fun r5 u6 H locs hp4 h => ?_)
  have h : xS D cy A s.heap ([]) s H locs := h
  refine lv_icmp_eq (tgt := 1763) F.1 F.2.1 dL_law_1732 (by decide) (fun _ => ?_) (fun hc => absurd (hp1.trans hp4.symm) hc)
  exact law_end F hr hlocks hX hbl hAs h (lv_sub hl [0, 3] rfl)
set_option maxHeartbeats 4000000 in
set_option maxRecDepth 100000 in
theorem law_c41 {p : Program} {l : Launch} {e : Env} {s : State} {m : MethodId} {below : List Frame} {meth : Method} {c : Code} {b : Nat} {xs : Nat → Int32} {D : va_G} {cy : Nat → ClassId} {A : Nat → Prop} {H : Heap} {locs : List Loc} {ls : Array Slot} {q r : Nat} {u v : Nat → Nat} (F : CallFix p m c cL_law 4 s #[Value.ref b] wsL_law RL) (hr : meth.sig.returnType = ret) (hlocks : meth.locks = false) (hX : va_X b 6 xs s s.heap) (hbl : b < s.heap.size) (hAs : ∀ q, A q → s.heap.size ≤ q) (h : xS D cy A s.heap (askW cy q u ++ modW cy r v) s H locs) (hl : lv_has ls 4 [(3, .int 0), (2, .ref r), (1, .ref q), (0, .ref b)]) : W p l e room_1 s m #[Value.ref b] below meth c H locs 857 99087 (lw_Z below #[Value.ref b] s) (F0 m 1737 ls []) := by
  have hbA : ¬ A b := fun ha => absurd (hAs b ha) (Nat.not_le.mpr hbl)
  have h : xS D cy A s.heap ([(q, .inr (11, [.ref ((u 0)), .ref ((u 1)), .ref ((u 2)), .ref ((u 3)), .ref ((u 4)), .ref ((u 5)), .ref ((u 6)), .ref ((u 7)), .ref ((u 8)), .ref ((u 9)), .int 0, .int 0, .int (-1), .int 0, .int 0, .long 0, .long 1])), (((u 4)), .inl (cy 4, 3, .inr (.inr (.inr (.inr (va_up (va_up (va_up (fun _ => none) 0 (some ((u 18)))) 1 (some ((u 19)))) 2 (some ((u 20))))))))), (((u 18)), .inr (0, [.ref ((u 130)), .ref ((u 131)), .ref ((u 132)), .ref ((u 133)), .ref ((u 134)), .int 0, .int 0])), (((u 130)), .inl (cy 7, 3, .inr (.inr (.inr (.inr (va_up (va_up (va_up (fun _ => none) 0 (some ((u 135)))) 1 (some ((u 136)))) 2 (some ((u 137))))))))), (((u 131)), .inl (cy 8, 3, .inr (.inr (.inr (.inr (va_up (va_up (va_up (fun _ => none) 0 (some ((u 138)))) 1 (some ((u 139)))) 2 (some ((u 140))))))))), (((u 133)), .inl (cy 2, 12, .inr (.inl (fun _ => 0)))), (((u 134)), .inl (cy 2, 12, .inr (.inl (fun _ => 0)))), (((u 135)), .inr (6, [.ref ((u 161)), .ref ((u 162)), .ref ((u 163)), .ref ((u 164)), .ref ((u 165)), .ref ((u 166)), .ref ((u 167)), .ref ((u 168)), .ref ((u 169)), .ref ((u 170)), .ref ((u 171)), .ref ((u 172)), .ref ((u 173)), .ref ((u 174)), .int 0, .int 0, .int 0, .int 0, .int 0])), (((u 161)), .inl (cy 2, 600, .inr (.inl (fun _ => 0)))), (((u 162)), .inl (cy 2, 12, .inr (.inl (fun _ => 0)))), (((u 163)), .inl (cy 1, 12, .inl (fun _ => 0))), (((u 164)), .inl (cy 1, 12, .inl (fun _ => 0))), (((u 165)), .inl (cy 1, 12, .inl (fun _ => 0))), (((u 166)), .inl (cy 2, 12, .inr (.inl (fun _ => 0)))), (((u 167)), .inl (cy 2, 12, .inr (.inl (fun _ => 0)))), (((u 168)), .inl (cy 1, 24, .inl (fun _ => 0))), (((u 169)), .inl (cy 1, 24, .inl (fun _ => 0))), (((u 170)), .inl (cy 1, 24, .inl (fun _ => 0))), (((u 171)), .inl (cy 1, 25, .inl (fun _ => 0))), (((u 172)), .inl (cy 1, 100, .inl (fun _ => 0))), (((u 173)), .inl (cy 1, 100, .inl (fun _ => 0))), (((u 174)), .inl (cy 1, 100, .inl (fun _ => 0))), (((u 136)), .inr (6, [.ref ((u 175)), .ref ((u 176)), .ref ((u 177)), .ref ((u 178)), .ref ((u 179)), .ref ((u 180)), .ref ((u 181)), .ref ((u 182)), .ref ((u 183)), .ref ((u 184)), .ref ((u 185)), .ref ((u 186)), .ref ((u 187)), .ref ((u 188)), .int 0, .int 0, .int 0, .int 0, .int 0])), (((u 175)), .inl (cy 2, 600, .inr (.inl (fun _ => 0)))), (((u 176)), .inl (cy 2, 12, .inr (.inl (fun _ => 0)))), (((u 177)), .inl (cy 1, 12, .inl (fun _ => 0))), (((u 178)), .inl (cy 1, 12, .inl (fun _ => 0))), (((u 179)), .inl (cy 1, 12, .inl (fun _ => 0))), (((u 180)), .inl (cy 2, 12, .inr (.inl (fun _ => 0)))), (((u 181)), .inl (cy 2, 12, .inr (.inl (fun _ => 0)))), (((u 182)), .inl (cy 1, 24, .inl (fun _ => 0))), (((u 183)), .inl (cy 1, 24, .inl (fun _ => 0))), (((u 184)), .inl (cy 1, 24, .inl (fun _ => 0))), (((u 185)), .inl (cy 1, 25, .inl (fun _ => 0))), (((u 186)), .inl (cy 1, 100, .inl (fun _ => 0))), (((u 187)), .inl (cy 1, 100, .inl (fun _ => 0))), (((u 188)), .inl (cy 1, 100, .inl (fun _ => 0))), (((u 137)), .inr (6, [.ref ((u 189)), .ref ((u 190)), .ref ((u 191)), .ref ((u 192)), .ref ((u 193)), .ref ((u 194)), .ref ((u 195)), .ref ((u 196)), .ref ((u 197)), .ref ((u 198)), .ref ((u 199)), .ref ((u 200)), .ref ((u 201)), .ref ((u 202)), .int 0, .int 0, .int 0, .int 0, .int 0])), (((u 189)), .inl (cy 2, 600, .inr (.inl (fun _ => 0)))), (((u 190)), .inl (cy 2, 12, .inr (.inl (fun _ => 0)))), (((u 191)), .inl (cy 1, 12, .inl (fun _ => 0))), (((u 192)), .inl (cy 1, 12, .inl (fun _ => 0))), (((u 193)), .inl (cy 1, 12, .inl (fun _ => 0))), (((u 194)), .inl (cy 2, 12, .inr (.inl (fun _ => 0)))), (((u 195)), .inl (cy 2, 12, .inr (.inl (fun _ => 0)))), (((u 196)), .inl (cy 1, 24, .inl (fun _ => 0))), (((u 197)), .inl (cy 1, 24, .inl (fun _ => 0))), (((u 198)), .inl (cy 1, 24, .inl (fun _ => 0))), (((u 199)), .inl (cy 1, 25, .inl (fun _ => 0))), (((u 200)), .inl (cy 1, 100, .inl (fun _ => 0))), (((u 201)), .inl (cy 1, 100, .inl (fun _ => 0))), (((u 202)), .inl (cy 1, 100, .inl (fun _ => 0))), (((u 138)), .inr (8, [.ref ((u 141)), .int 0, .long 0])), (((u 139)), .inr (8, [.ref ((u 142)), .int 0, .long 0])), (((u 140)), .inr (8, [.ref ((u 143)), .int 0, .long 0])), (((u 3)), .inr (0, [.ref ((u 57)), .ref ((u 58)), .ref ((u 59)), .ref ((u 60)), .ref ((u 61)), .int 0, .int 0])), (((u 57)), .inl (cy 7, 3, .inr (.inr (.inr (.inr (va_up (va_up (va_up (fun _ => none) 0 (some ((u 62)))) 1 (some ((u 63)))) 2 (some ((u 64))))))))), (((u 58)), .inl (cy 8, 3, .inr (.inr (.inr (.inr (va_up (va_up (va_up (fun _ => none) 0 (some ((u 65)))) 1 (some ((u 66)))) 2 (some ((u 67))))))))), (((u 60)), .inl (cy 2, 12, .inr (.inl (fun _ => 0)))), (((u 61)), .inl (cy 2, 12, .inr (.inl (fun _ => 0)))), (((u 62)), .inr (6, [.ref ((u 88)), .ref ((u 89)), .ref ((u 90)), .ref ((u 91)), .ref ((u 92)), .ref ((u 93)), .ref ((u 94)), .ref ((u 95)), .ref ((u 96)), .ref ((u 97)), .ref ((u 98)), .ref ((u 99)), .ref ((u 100)), .ref ((u 101)), .int 0, .int 0, .int 0, .int 0, .int 0])), (((u 88)), .inl (cy 2, 600, .inr (.inl (fun _ => 0)))), (((u 89)), .inl (cy 2, 12, .inr (.inl (fun _ => 0)))), (((u 90)), .inl (cy 1, 12, .inl (fun _ => 0))), (((u 91)), .inl (cy 1, 12, .inl (fun _ => 0))), (((u 92)), .inl (cy 1, 12, .inl (fun _ => 0))), (((u 93)), .inl (cy 2, 12, .inr (.inl (fun _ => 0)))), (((u 94)), .inl (cy 2, 12, .inr (.inl (fun _ => 0)))), (((u 95)), .inl (cy 1, 24, .inl (fun _ => 0))), (((u 96)), .inl (cy 1, 24, .inl (fun _ => 0))), (((u 97)), .inl (cy 1, 24, .inl (fun _ => 0))), (((u 98)), .inl (cy 1, 25, .inl (fun _ => 0))), (((u 99)), .inl (cy 1, 100, .inl (fun _ => 0))), (((u 100)), .inl (cy 1, 100, .inl (fun _ => 0))), (((u 101)), .inl (cy 1, 100, .inl (fun _ => 0))), (((u 63)), .inr (6, [.ref ((u 102)), .ref ((u 103)), .ref ((u 104)), .ref ((u 105)), .ref ((u 106)), .ref ((u 107)), .ref ((u 108)), .ref ((u 109)), .ref ((u 110)), .ref ((u 111)), .ref ((u 112)), .ref ((u 113)), .ref ((u 114)), .ref ((u 115)), .int 0, .int 0, .int 0, .int 0, .int 0])), (((u 102)), .inl (cy 2, 600, .inr (.inl (fun _ => 0)))), (((u 103)), .inl (cy 2, 12, .inr (.inl (fun _ => 0)))), (((u 104)), .inl (cy 1, 12, .inl (fun _ => 0))), (((u 105)), .inl (cy 1, 12, .inl (fun _ => 0))), (((u 106)), .inl (cy 1, 12, .inl (fun _ => 0))), (((u 107)), .inl (cy 2, 12, .inr (.inl (fun _ => 0)))), (((u 108)), .inl (cy 2, 12, .inr (.inl (fun _ => 0)))), (((u 109)), .inl (cy 1, 24, .inl (fun _ => 0))), (((u 110)), .inl (cy 1, 24, .inl (fun _ => 0))), (((u 111)), .inl (cy 1, 24, .inl (fun _ => 0))), (((u 112)), .inl (cy 1, 25, .inl (fun _ => 0))), (((u 113)), .inl (cy 1, 100, .inl (fun _ => 0))), (((u 114)), .inl (cy 1, 100, .inl (fun _ => 0))), (((u 115)), .inl (cy 1, 100, .inl (fun _ => 0))), (((u 64)), .inr (6, [.ref ((u 116)), .ref ((u 117)), .ref ((u 118)), .ref ((u 119)), .ref ((u 120)), .ref ((u 121)), .ref ((u 122)), .ref ((u 123)), .ref ((u 124)), .ref ((u 125)), .ref ((u 126)), .ref ((u 127)), .ref ((u 128)), .ref ((u 129)), .int 0, .int 0, .int 0, .int 0, .int 0])), (((u 116)), .inl (cy 2, 600, .inr (.inl (fun _ => 0)))), (((u 117)), .inl (cy 2, 12, .inr (.inl (fun _ => 0)))), (((u 118)), .inl (cy 1, 12, .inl (fun _ => 0))), (((u 119)), .inl (cy 1, 12, .inl (fun _ => 0))), (((u 120)), .inl (cy 1, 12, .inl (fun _ => 0))), (((u 121)), .inl (cy 2, 12, .inr (.inl (fun _ => 0)))), (((u 122)), .inl (cy 2, 12, .inr (.inl (fun _ => 0)))), (((u 123)), .inl (cy 1, 24, .inl (fun _ => 0))), (((u 124)), .inl (cy 1, 24, .inl (fun _ => 0))), (((u 125)), .inl (cy 1, 24, .inl (fun _ => 0))), (((u 126)), .inl (cy 1, 25, .inl (fun _ => 0))), (((u 127)), .inl (cy 1, 100, .inl (fun _ => 0))), (((u 128)), .inl (cy 1, 100, .inl (fun _ => 0))), (((u 129)), .inl (cy 1, 100, .inl (fun _ => 0))), (((u 65)), .inr (8, [.ref ((u 68)), .int 0, .long 0])), (((u 66)), .inr (8, [.ref ((u 69)), .int 0, .long 0])), (((u 67)), .inr (8, [.ref ((u 70)), .int 0, .long 0])), (r, .inr (12, (.ref ((v 0)) :: .int 0 :: .long 0 :: .long 1 :: .ref ((v 1)) :: .ref ((v 2)) :: .ref ((v 3)) :: .ref ((v 4)) :: .ref ((v 5)) :: .int 0 :: .int 0 :: .int 0 :: .int 0 :: .int 0 :: .int 0 :: .int (-1) :: .int (-1) :: .int 0 :: .ref ((v 6)) :: .int 0 :: .int 0 :: .ref ((v 7)) :: .ref ((v 8)) :: .ref ((v 9)) :: .ref ((v 10)) :: .ref ((v 11)) :: .ref ((v 12)) :: .ref ((v 13)) :: .int 0 :: .int 0 :: .int (-1) :: .int 0 :: .int (-1) :: .int 0 :: .ref ((v 14)) :: .int 0 :: .int 0 :: .int 0 :: .int 0 :: .int 0 :: .ref ((v 15)) :: .ref ((v 16)) :: .int 0 :: .int (-1) :: .int 0 :: .int 0 :: .int 0 :: .int 0 :: .ref ((v 17)) :: .ref ((v 18)) :: .ref ((v 19)) :: .int 0 :: .ref ((v 20)) :: .ref ((v 21)) :: .int 0 :: .ref ((v 22)) :: .int (-1) :: .int 0 :: .ref ((v 23)) :: .int (-1) :: .int (-1) :: .int 0 :: .ref ((v 24)) :: .ref ((v 25)) :: .int 0 :: []))), (((v 0)), .inl (cy 2, 25710, .inr (.inl (fun _ => 0))))]) s H locs := h.sub [0, 3, 90, 91, 92, 94, 95, 96, 97, 98, 99, 100, 101, 102, 103, 104, 105, 106, 107, 108, 109, 110, 111, 112, 113, 114, 115, 116, 117, 118, 119, 120, 121, 122, 123, 124, 125, 126, 127, 128, 129, 130, 131, 132, 133, 134, 135, 136, 137, 138, 139, 140, 141, 142, 143, 34, 35, 36, 38, 39, 40, 41, 42, 43, 44, 45, 46, 47, 48, 49, 50, 51, 52, 53, 54, 55, 56, 57, 58, 59, 60, 61, 62, 63, 64, 65, 66, 67, 68, 69, 70, 71, 72, 73, 74, 75, 76, 77, 78, 79, 80, 81, 82, 83, 84, 85, 86, 87, 146, 147] (by decide +kernel) rfl
  refine lv_aload_n F.1 F.2.1 dL_law_1737 rfl (lv_at hl 2 rfl) ?_
  refine x_Vi (wr := [(r, .inr (12, (.ref ((v 0)) :: .int 0 :: .long 0 :: .long 1 :: .ref ((v 1)) :: .ref ((v 2)) :: .ref ((v 3)) :: .ref ((v 4)) :: .ref ((v 5)) :: .int 0 :: .int 0 :: .int 0 :: .int 0 :: .int 0 :: .int 0 :: .int (-1) :: .int (-1) :: .int 0 :: .ref ((v 6)) :: .int 0 :: .int 0 :: .ref ((v 7)) :: .ref ((v 8)) :: .ref ((v 9)) :: .ref ((v 10)) :: .ref ((v 11)) :: .ref ((v 12)) :: .ref ((v 13)) :: .int 0 :: .int 0 :: .int (-1) :: .int 0 :: .int (-1) :: .int 0 :: .ref ((v 14)) :: .int 0 :: .int 0 :: .int 0 :: .int 0 :: .int 0 :: .ref ((v 15)) :: .ref ((v 16)) :: .int 0 :: .int (-1) :: .int 0 :: .int 0 :: .int 0 :: .int 0 :: .ref ((v 17)) :: .ref ((v 18)) :: .ref ((v 19)) :: .int 0 :: .ref ((v 20)) :: .ref ((v 21)) :: .int 0 :: .ref ((v 22)) :: .int (-1) :: .int 0 :: .ref ((v 23)) :: .int (-1) :: .int (-1) :: .int 0 :: .ref ((v 24)) :: .ref ((v 25)) :: .int 0 :: []))), (((v 0)), .inl (cy 2, 25710, .inr (.inl (fun _ => 0))))]) F h yk_X11_mark mw_1557 mw_1558 mw_1559 (c_mark l D cy q u ) [0, 1, 2, 3, 4, 5, 6, 7, 8, 9, 10, 11, 12, 13, 14, 15, 16, 17, 18, 19, 20, 21, 22, 23, 24, 25, 26, 27, 28, 29, 30, 31, 32, 33, 34, 35, 36, 37, 38, 39, 40, 41, 42, 43, 44, 45, 46, 47, 48, 49, 50, 51, 52, 53, 54, 55, 56, 57, 58, 59, 60, 61, 62, 63, 64, 65, 66, 67, 68, 69, 70, 71, 72, 73, 74, 75, 76, 77, 78, 79, 80, 81, 82, 83, 84, 85, 86, 87, 88, 89, 90, 91, 92, 93, 94, 95, 96, 97, 98, 99, 100, 101, 102, 103, 104, 105, 106, 107] [108, 109] 0 rfl (by decide +kernel) rfl rfl (by decide +kernel) rfl rfl hl.1 rfl (Nat.le_of_ble_eq_true rfl) ⟨Nat.le_of_ble_eq_true rfl, Nat.le_of_ble_eq_true rfl⟩ ⟨Nat.le_of_ble_eq_true rfl, Nat.le_of_ble_eq_true rfl⟩ dL_law_1738 (fun r2 u3 H locs hp1 h => ?_)
  have h : xS D cy A s.heap ([(r, .inr (12, (.ref ((v 0)) :: .int 0 :: .long 0 :: .long 1 :: .ref ((v 1)) :: .ref ((v 2)) :: .ref ((v 3)) :: .ref ((v 4)) :: .ref ((v 5)) :: .int 0 :: .int 0 :: .int 0 :: .int 0 :: .int 0 :: .int 0 :: .int (-1) :: .int (-1) :: .int 0 :: .ref ((v 6)) :: .int 0 :: .int 0 :: .ref ((v 7)) :: .ref ((v 8)) :: .ref ((v 9)) :: .ref ((v 10)) :: .ref ((v 11)) :: .ref ((v 12)) :: .ref ((v 13)) :: .int 0 :: .int 0 :: .int (-1) :: .int 0 :: .int (-1) :: .int 0 :: .ref ((v 14)) :: .int 0 :: .int 0 :: .int 0 :: .int 0 :: .int 0 :: .ref ((v 15)) :: .ref ((v 16)) :: .int 0 :: .int (-1) :: .int 0 :: .int 0 :: .int 0 :: .int 0 :: .ref ((v 17)) :: .ref ((v 18)) :: .ref ((v 19)) :: .int 0 :: .ref ((v 20)) :: .ref ((v 21)) :: .int 0 :: .ref ((v 22)) :: .int (-1) :: .int 0 :: .ref ((v 23)) :: .int (-1) :: .int (-1) :: .int 0 :: .ref ((v 24)) :: .ref ((v 25)) :: .int 0 :: []))), (((v 0)), .inl (cy 2, 25710, .inr (.inl (fun _ => 0))))]) s H locs := h
  obtain rfl : r2 = 1 := hp1
  refine lv_aload_n F.1 F.2.1 dL_law_1741 rfl (lv_at hl 1 rfl) ?_
  refine x_Vi (wr := []) F h yk_X12_mark mw_1572 mw_1573 mw_1574 (c_m_mark l D cy r v ) [0, 1] [] 0 rfl rfl rfl rfl (by decide) rfl rfl hl.1 rfl (Nat.le_of_ble_eq_true rfl) ⟨Nat.le_of_ble_eq_true rfl, Nat.le_of_ble_eq_true rfl⟩ ⟨Nat.le_of_ble_eq_true rfl, Nat.le_of_ble_eq_true rfl⟩ dL_law_1742 (fun r5 u6 H locs hp4 h => ?_)
  have h : xS D cy A s.heap ([]) s H locs := h
  obtain rfl : r5 = 1 := hp4
  refine lv_icmp_eq (tgt := 1763) F.1 F.2.1 dL_law_1745 (by decide) (fun _ => ?_) (fun hc => absurd (by decide) hc)
  exact law_end F hr hlocks hX hbl hAs h (lv_sub hl [0, 3] rfl)
set_option maxHeartbeats 4000000 in
set_option maxRecDepth 100000 in
theorem law_c42 {p : Program} {l : Launch} {e : Env} {s : State} {m : MethodId} {below : List Frame} {meth : Method} {c : Code} {b : Nat} {xs : Nat → Int32} {D : va_G} {cy : Nat → ClassId} {A : Nat → Prop} {H : Heap} {locs : List Loc} {ls : Array Slot} {q r : Nat} {u v : Nat → Nat} (F : CallFix p m c cL_law 4 s #[Value.ref b] wsL_law RL) (hr : meth.sig.returnType = ret) (hlocks : meth.locks = false) (hX : va_X b 6 xs s s.heap) (hbl : b < s.heap.size) (hAs : ∀ q, A q → s.heap.size ≤ q) (h : xS D cy A s.heap (askW cy q u ++ modW cy r v) s H locs) (hl : lv_has ls 4 [(3, .int 0), (2, .ref r), (1, .ref q), (0, .ref b)]) : W p l e room_1 s m #[Value.ref b] below meth c H locs 857 99087 (lw_Z below #[Value.ref b] s) (F0 m 1750 ls []) := by
  have hbA : ¬ A b := fun ha => absurd (hAs b ha) (Nat.not_le.mpr hbl)
  have h : xS D cy A s.heap ([(q, .inr (11, [.ref ((u 0)), .ref ((u 1)), .ref ((u 2)), .ref ((u 3)), .ref ((u 4)), .ref ((u 5)), .ref ((u 6)), .ref ((u 7)), .ref ((u 8)), .ref ((u 9)), .int 0, .int 0, .int (-1), .int 0, .int 0, .long 0, .long 1])), (r, .inr (12, (.ref ((v 0)) :: .int 0 :: .long 0 :: .long 1 :: .ref ((v 1)) :: .ref ((v 2)) :: .ref ((v 3)) :: .ref ((v 4)) :: .ref ((v 5)) :: .int 0 :: .int 0 :: .int 0 :: .int 0 :: .int 0 :: .int 0 :: .int (-1) :: .int (-1) :: .int 0 :: .ref ((v 6)) :: .int 0 :: .int 0 :: .ref ((v 7)) :: .ref ((v 8)) :: .ref ((v 9)) :: .ref ((v 10)) :: .ref ((v 11)) :: .ref ((v 12)) :: .ref ((v 13)) :: .int 0 :: .int 0 :: .int (-1) :: .int 0 :: .int (-1) :: .int 0 :: .ref ((v 14)) :: .int 0 :: .int 0 :: .int 0 :: .int 0 :: .int 0 :: .ref ((v 15)) :: .ref ((v 16)) :: .int 0 :: .int (-1) :: .int 0 :: .int 0 :: .int 0 :: .int 0 :: .ref ((v 17)) :: .ref ((v 18)) :: .ref ((v 19)) :: .int 0 :: .ref ((v 20)) :: .ref ((v 21)) :: .int 0 :: .ref ((v 22)) :: .int (-1) :: .int 0 :: .ref ((v 23)) :: .int (-1) :: .int (-1) :: .int 0 :: .ref ((v 24)) :: .ref ((v 25)) :: .int 0 :: [])))]) s H locs := h.sub [0, 146] (by decide +kernel) rfl
  refine lv_aload_n F.1 F.2.1 dL_law_1750 rfl (lv_at hl 2 rfl) ?_
  refine x_Vi (wr := [(r, .inr (12, (.ref ((v 0)) :: .int 0 :: .long 0 :: .long 1 :: .ref ((v 1)) :: .ref ((v 2)) :: .ref ((v 3)) :: .ref ((v 4)) :: .ref ((v 5)) :: .int 0 :: .int 0 :: .int 0 :: .int 0 :: .int 0 :: .int 0 :: .int (-1) :: .int (-1) :: .int 0 :: .ref ((v 6)) :: .int 0 :: .int 0 :: .ref ((v 7)) :: .ref ((v 8)) :: .ref ((v 9)) :: .ref ((v 10)) :: .ref ((v 11)) :: .ref ((v 12)) :: .ref ((v 13)) :: .int 0 :: .int 0 :: .int (-1) :: .int 0 :: .int (-1) :: .int 0 :: .ref ((v 14)) :: .int 0 :: .int 0 :: .int 0 :: .int 0 :: .int 0 :: .ref ((v 15)) :: .ref ((v 16)) :: .int 0 :: .int (-1) :: .int 0 :: .int 0 :: .int 0 :: .int 0 :: .ref ((v 17)) :: .ref ((v 18)) :: .ref ((v 19)) :: .int 0 :: .ref ((v 20)) :: .ref ((v 21)) :: .int 0 :: .ref ((v 22)) :: .int (-1) :: .int 0 :: .ref ((v 23)) :: .int (-1) :: .int (-1) :: .int 0 :: .ref ((v 24)) :: .ref ((v 25)) :: .int 0 :: [])))]) F h yk_X11_back mw_1577 mw_1578 mw_1579 (c_back l D cy q u ) [0] [1] 0 rfl rfl rfl rfl (by decide) rfl rfl hl.1 rfl (Nat.le_of_ble_eq_true rfl) ⟨Nat.le_of_ble_eq_true rfl, Nat.le_of_ble_eq_true rfl⟩ ⟨Nat.le_of_ble_eq_true rfl, Nat.le_of_ble_eq_true rfl⟩ dL_law_1751 (fun r2 u3 H locs hp1 h => ?_)
  have h : xS D cy A s.heap ([(r, .inr (12, (.ref ((v 0)) :: .int 0 :: .long 0 :: .long 1 :: .ref ((v 1)) :: .ref ((v 2)) :: .ref ((v 3)) :: .ref ((v 4)) :: .ref ((v 5)) :: .int 0 :: .int 0 :: .int 0 :: .int 0 :: .int 0 :: .int 0 :: .int (-1) :: .int (-1) :: .int 0 :: .ref ((v 6)) :: .int 0 :: .int 0 :: .ref ((v 7)) :: .ref ((v 8)) :: .ref ((v 9)) :: .ref ((v 10)) :: .ref ((v 11)) :: .ref ((v 12)) :: .ref ((v 13)) :: .int 0 :: .int 0 :: .int (-1) :: .int 0 :: .int (-1) :: .int 0 :: .ref ((v 14)) :: .int 0 :: .int 0 :: .int 0 :: .int 0 :: .int 0 :: .ref ((v 15)) :: .ref ((v 16)) :: .int 0 :: .int (-1) :: .int 0 :: .int 0 :: .int 0 :: .int 0 :: .ref ((v 17)) :: .ref ((v 18)) :: .ref ((v 19)) :: .int 0 :: .ref ((v 20)) :: .ref ((v 21)) :: .int 0 :: .ref ((v 22)) :: .int (-1) :: .int 0 :: .ref ((v 23)) :: .int (-1) :: .int (-1) :: .int 0 :: .ref ((v 24)) :: .ref ((v 25)) :: .int 0 :: [])))]) s H locs := h
  obtain rfl : r2 = (-1) := hp1
  refine lv_aload_n F.1 F.2.1 dL_law_1754 rfl (lv_at hl 1 rfl) ?_
  refine x_Vi (wr := []) F h yk_X12_back mw_1581 mw_1582 mw_1583 (c_m_back l D cy r v ) [0] [] 0 rfl rfl rfl rfl (by decide) rfl rfl hl.1 rfl (Nat.le_of_ble_eq_true rfl) ⟨Nat.le_of_ble_eq_true rfl, Nat.le_of_ble_eq_true rfl⟩ ⟨Nat.le_of_ble_eq_true rfl, Nat.le_of_ble_eq_true rfl⟩ dL_law_1755 (fun r5 u6 H locs hp4 h => ?_)
  have h : xS D cy A s.heap ([]) s H locs := h
  obtain rfl : r5 = (-1) := hp4
  refine lv_icmp_eq (tgt := 1763) F.1 F.2.1 dL_law_1758 (by decide) (fun _ => ?_) (fun hc => absurd (by decide) hc)
  exact law_end F hr hlocks hX hbl hAs h (lv_sub hl [0, 3] rfl)
