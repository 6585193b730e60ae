theorem dW_1432 : decode code 1432 = .ok (.aload_n 1, 1) := by decide +kernel
theorem dW_1433 : decode code 1433 = .ok (.aload_n 0, 1) := by decide +kernel
theorem dW_1434 : decode code 1434 = .ok (.iload 4, 2) := by decide +kernel
theorem dW_1436 : decode code 1436 = .ok (.iconst 1, 1) := by decide +kernel
theorem dW_1437 : decode code 1437 = .ok (.iadd, 1) := by decide +kernel
theorem dW_1438 : decode code 1438 = .ok (.iaload, 1) := by decide +kernel
theorem dW_1439 : decode code 1439 = .ok (.aload_n 0, 1) := by decide +kernel
theorem dW_1440 : decode code 1440 = .ok (.iload 4, 2) := by decide +kernel
theorem dW_1442 : decode code 1442 = .ok (.iconst 2, 1) := by decide +kernel
theorem dW_1443 : decode code 1443 = .ok (.iadd, 1) := by decide +kernel
theorem dW_1444 : decode code 1444 = .ok (.iaload, 1) := by decide +kernel
theorem dW_1445 : decode code 1445 = .ok (.aload_n 0, 1) := by decide +kernel
theorem dW_1446 : decode code 1446 = .ok (.iload 4, 2) := by decide +kernel
theorem dW_1448 : decode code 1448 = .ok (.iconst 3, 1) := by decide +kernel
theorem dW_1449 : decode code 1449 = .ok (.iadd, 1) := by decide +kernel
theorem dW_1450 : decode code 1450 = .ok (.iaload, 1) := by decide +kernel
theorem dW_1451 : decode code 1451 = .ok (.aload_n 3, 1) := by decide +kernel
theorem dW_1452 : decode code 1452 = .ok (.invokestatic 172, 3) := by decide +kernel
theorem dW_1455 : decode code 1455 = .ok (.istore 5, 2) := by decide +kernel
theorem dW_1457 : decode code 1457 = .ok (.aload_n 2, 1) := by decide +kernel
theorem dW_1458 : decode code 1458 = .ok (.aload_n 0, 1) := by decide +kernel
theorem dW_1459 : decode code 1459 = .ok (.iload 4, 2) := by decide +kernel
theorem dW_1461 : decode code 1461 = .ok (.iconst 1, 1) := by decide +kernel
theorem dW_1462 : decode code 1462 = .ok (.iadd, 1) := by decide +kernel
theorem dW_1463 : decode code 1463 = .ok (.iaload, 1) := by decide +kernel
theorem dW_1464 : decode code 1464 = .ok (.aload_n 0, 1) := by decide +kernel
theorem dW_1465 : decode code 1465 = .ok (.iload 4, 2) := by decide +kernel
theorem dW_1467 : decode code 1467 = .ok (.iconst 2, 1) := by decide +kernel
theorem dW_1468 : decode code 1468 = .ok (.iadd, 1) := by decide +kernel
theorem dW_1469 : decode code 1469 = .ok (.iaload, 1) := by decide +kernel
theorem dW_1470 : decode code 1470 = .ok (.aload_n 0, 1) := by decide +kernel
theorem dW_1471 : decode code 1471 = .ok (.iload 4, 2) := by decide +kernel
theorem dW_1473 : decode code 1473 = .ok (.iconst 3, 1) := by decide +kernel
theorem dW_1474 : decode code 1474 = .ok (.iadd, 1) := by decide +kernel
theorem dW_1475 : decode code 1475 = .ok (.iaload, 1) := by decide +kernel
theorem dW_1476 : decode code 1476 = .ok (.invokevirtual 174, 3) := by decide +kernel
theorem dW_1479 : decode code 1479 = .ok (.istore 6, 2) := by decide +kernel
theorem dW_1481 : decode code 1481 = .ok (.aload_n 2, 1) := by decide +kernel
theorem dW_1482 : decode code 1482 = .ok (.invokevirtual 107, 3) := by decide +kernel
theorem dW_1485 : decode code 1485 = .ok (.iload 5, 2) := by decide +kernel
theorem dW_1487 : decode code 1487 = .ok (.if_icmp .eq 5, 3) := by decide +kernel
theorem dW_1492 : decode code 1492 = .ok (.iload 5, 2) := by decide +kernel
theorem dW_1494 : decode code 1494 = .ok (.ifCond .ne 15, 3) := by decide +kernel
theorem dW_1497 : decode code 1497 = .ok (.aload_n 3, 1) := by decide +kernel
theorem dW_1498 : decode code 1498 = .ok (.iconst 0, 1) := by decide +kernel
theorem dW_1499 : decode code 1499 = .ok (.laload, 1) := by decide +kernel
theorem dW_1500 : decode code 1500 = .ok (.iload 6, 2) := by decide +kernel
theorem dW_1502 : decode code 1502 = .ok (.i2l, 1) := by decide +kernel
theorem dW_1503 : decode code 1503 = .ok (.lcmp, 1) := by decide +kernel
theorem dW_1504 : decode code 1504 = .ok (.ifCond .eq 5, 3) := by decide +kernel
theorem dW_1509 : decode code 1509 = .ok (.goto 551, 3) := by decide +kernel
theorem dW_1512 : decode code 1512 = .ok (.aload_n 1, 1) := by decide +kernel
theorem dW_1513 : decode code 1513 = .ok (.aload_n 0, 1) := by decide +kernel
theorem dW_1514 : decode code 1514 = .ok (.iload 4, 2) := by decide +kernel
theorem dW_1516 : decode code 1516 = .ok (.iconst 1, 1) := by decide +kernel
theorem dW_1517 : decode code 1517 = .ok (.iadd, 1) := by decide +kernel
theorem dW_1518 : decode code 1518 = .ok (.iaload, 1) := by decide +kernel
theorem dW_1519 : decode code 1519 = .ok (.aload_n 0, 1) := by decide +kernel
theorem dW_1520 : decode code 1520 = .ok (.iload 4, 2) := by decide +kernel
theorem dW_1522 : decode code 1522 = .ok (.iconst 2, 1) := by decide +kernel
theorem dW_1523 : decode code 1523 = .ok (.iadd, 1) := by decide +kernel
theorem dW_1524 : decode code 1524 = .ok (.iaload, 1) := by decide +kernel
theorem dW_1525 : decode code 1525 = .ok (.aload_n 3, 1) := by decide +kernel
theorem dW_1526 : decode code 1526 = .ok (.invokestatic 175, 3) := by decide +kernel
theorem dW_1529 : decode code 1529 = .ok (.istore 5, 2) := by decide +kernel
theorem dW_1531 : decode code 1531 = .ok (.aload_n 2, 1) := by decide +kernel
theorem dW_1532 : decode code 1532 = .ok (.aload_n 0, 1) := by decide +kernel
theorem dW_1533 : decode code 1533 = .ok (.iload 4, 2) := by decide +kernel
theorem dW_1535 : decode code 1535 = .ok (.iconst 1, 1) := by decide +kernel
theorem dW_1536 : decode code 1536 = .ok (.iadd, 1) := by decide +kernel
theorem dW_1537 : decode code 1537 = .ok (.iaload, 1) := by decide +kernel
theorem dW_1538 : decode code 1538 = .ok (.aload_n 0, 1) := by decide +kernel
theorem dW_1539 : decode code 1539 = .ok (.iload 4, 2) := by decide +kernel
theorem dW_1541 : decode code 1541 = .ok (.iconst 2, 1) := by decide +kernel
theorem dW_1542 : decode code 1542 = .ok (.iadd, 1) := by decide +kernel
theorem dW_1543 : decode code 1543 = .ok (.iaload, 1) := by decide +kernel
theorem dW_1544 : decode code 1544 = .ok (.invokevirtual 177, 3) := by decide +kernel
theorem dW_1547 : decode code 1547 = .ok (.istore 6, 2) := by decide +kernel
theorem dW_1549 : decode code 1549 = .ok (.aload_n 2, 1) := by decide +kernel
theorem dW_1550 : decode code 1550 = .ok (.invokevirtual 107, 3) := by decide +kernel
theorem dW_1553 : decode code 1553 = .ok (.iload 5, 2) := by decide +kernel
theorem dW_1555 : decode code 1555 = .ok (.if_icmp .eq 5, 3) := by decide +kernel
theorem dW_1560 : decode code 1560 = .ok (.iload 5, 2) := by decide +kernel
theorem dW_1562 : decode code 1562 = .ok (.ifCond .ne 15, 3) := by decide +kernel
theorem dW_1565 : decode code 1565 = .ok (.aload_n 3, 1) := by decide +kernel
theorem dW_1566 : decode code 1566 = .ok (.iconst 0, 1) := by decide +kernel
theorem dW_1567 : decode code 1567 = .ok (.laload, 1) := by decide +kernel
theorem dW_1568 : decode code 1568 = .ok (.iload 6, 2) := by decide +kernel
theorem dW_1570 : decode code 1570 = .ok (.i2l, 1) := by decide +kernel
theorem dW_1571 : decode code 1571 = .ok (.lcmp, 1) := by decide +kernel
theorem dW_1572 : decode code 1572 = .ok (.ifCond .eq 5, 3) := by decide +kernel
theorem dW_1577 : decode code 1577 = .ok (.goto 483, 3) := by decide +kernel
theorem dW_1580 : decode code 1580 = .ok (.aload_n 1, 1) := by decide +kernel
theorem dW_1581 : decode code 1581 = .ok (.invokevirtual 178, 3) := by decide +kernel
theorem dW_1584 : decode code 1584 = .ok (.aload_n 2, 1) := by decide +kernel
theorem dW_1585 : decode code 1585 = .ok (.invokevirtual 181, 3) := by decide +kernel
theorem dW_1588 : decode code 1588 = .ok (.if_icmp .eq 472, 3) := by decide +kernel
theorem dW_1593 : decode code 1593 = .ok (.aload_n 1, 1) := by decide +kernel
theorem dW_1594 : decode code 1594 = .ok (.aload_n 0, 1) := by decide +kernel
theorem dW_1595 : decode code 1595 = .ok (.iload 4, 2) := by decide +kernel
theorem dW_1597 : decode code 1597 = .ok (.iconst 1, 1) := by decide +kernel
theorem dW_1598 : decode code 1598 = .ok (.iadd, 1) := by decide +kernel
theorem dW_1599 : decode code 1599 = .ok (.iaload, 1) := by decide +kernel
theorem dW_1600 : decode code 1600 = .ok (.aload_n 3, 1) := by decide +kernel
theorem dW_1601 : decode code 1601 = .ok (.invokestatic 182, 3) := by decide +kernel
theorem dW_1604 : decode code 1604 = .ok (.istore 5, 2) := by decide +kernel
theorem dW_1606 : decode code 1606 = .ok (.aload_n 2, 1) := by decide +kernel
theorem dW_1607 : decode code 1607 = .ok (.aload_n 0, 1) := by decide +kernel
theorem dW_1608 : decode code 1608 = .ok (.iload 4, 2) := by decide +kernel
theorem dW_1610 : decode code 1610 = .ok (.iconst 1, 1) := by decide +kernel
theorem dW_1611 : decode code 1611 = .ok (.iadd, 1) := by decide +kernel
theorem dW_1612 : decode code 1612 = .ok (.iaload, 1) := by decide +kernel
theorem dW_1613 : decode code 1613 = .ok (.invokevirtual 184, 3) := by decide +kernel
theorem dW_1616 : decode code 1616 = .ok (.istore 6, 2) := by decide +kernel
theorem dW_1618 : decode code 1618 = .ok (.aload_n 2, 1) := by decide +kernel
theorem dW_1619 : decode code 1619 = .ok (.invokevirtual 107, 3) := by decide +kernel
theorem dW_1622 : decode code 1622 = .ok (.iload 5, 2) := by decide +kernel
theorem dW_1624 : decode code 1624 = .ok (.if_icmp .eq 5, 3) := by decide +kernel
theorem dW_1629 : decode code 1629 = .ok (.iload 5, 2) := by decide +kernel
theorem dW_1631 : decode code 1631 = .ok (.ifCond .ne 15, 3) := by decide +kernel
theorem dW_1634 : decode code 1634 = .ok (.aload_n 3, 1) := by decide +kernel
theorem dW_1635 : decode code 1635 = .ok (.iconst 0, 1) := by decide +kernel
theorem dW_1636 : decode code 1636 = .ok (.laload, 1) := by decide +kernel
theorem dW_1637 : decode code 1637 = .ok (.iload 6, 2) := by decide +kernel
theorem dW_1639 : decode code 1639 = .ok (.i2l, 1) := by decide +kernel
theorem dW_1640 : decode code 1640 = .ok (.lcmp, 1) := by decide +kernel
theorem dW_1641 : decode code 1641 = .ok (.ifCond .eq 5, 3) := by decide +kernel
theorem dW_1646 : decode code 1646 = .ok (.goto 414, 3) := by decide +kernel
section YLA
variable {x : yC} {l : Launch} {g : yG} {b L : Nat} {xs : Nat → Int32} {Q : State → Prop} {n : Nat} {σ : yM} {cells slots : Nat}
set_option maxHeartbeats 4000000 in
set_option maxRecDepth 100000 in
theorem zc_half (E : zE x l g b L xs) {N : Int} {A : aA} (G : zG N σ A) (hN0 : 0 ≤ N) (hN : N ≤ 400000000) (hn : 172 ≤ n) {i : Int} (hi : 0 ≤ i ∧ i + 6 ≤ (L : Int)) (hc : cells + 408 ≤ 601024) (hs : slots + 3660 ≤ 7293033) (k : zK x g b Q n N cells slots i) : yV x g 7 Q (SC g) n σ cells slots 1432 (zL g b i) [] := by
  obtain ⟨w, h, ⟨T, S, F, P, O, nf, df, nl, lg⟩, ⟨s, re, fo, ra, tu, we, sh⟩, H, ht, K, tl, tb, fa, r1, r2⟩ := A
  obtain ⟨hC, hM, hW⟩ := G
  have hF := E.1
  have ZN := hN0
  refine y_aload_n (pc := 1432) hF dW_1432 1 rfl ?_
  refine zl_arg (pc := 1433) E dW_1433 dW_1434 dW_1436 dW_1437 dW_1438 rfl rfl (by omega) ?_
  refine zl_arg (pc := 1439) E dW_1439 dW_1440 dW_1442 dW_1443 dW_1444 rfl rfl (by omega) ?_
  refine zl_arg (pc := 1445) E dW_1445 dW_1446 dW_1448 dW_1449 dW_1450 rfl rfl (by omega) ?_
  refine y_aload_n (pc := 1451) hF dW_1451 3 rfl ?_
  refine y_ci (cells' := cells + 4) (slots' := slots + 24) (y_rSL (pc := 1452) (na := 5) hF E.2.1 E.2.2.1 (tL_half E.2.2.2.1 hn _ _ _ _ _ _ _ _ _ _ _ _ _ _ _ _ _ _ _ _ _ _ _ _ _ _ _ hC hW (zA xs i 1) (zA xs i 2) (zA xs i 3) (zA_r xs i 1) (zA_r xs i 2) (zA_r xs i 3)) dW_1452 w_1126 w_1127 wl_half w_85 ⟨by decide, by decide, by decide +kernel⟩ rfl ⟨Nat.le_of_ble_eq_true rfl, Nat.le_of_ble_eq_true rfl⟩ ⟨by show cells + 4 ≤ 601024; omega, by show slots + 24 ≤ 7293033; omega⟩ (Nat.le_of_ble_eq_true rfl) rfl (rest := [])) rfl rfl (fun zk n1 σ1 z1 => ?_)
  refine y_istore (pc := 1455) (lv' := zL5 g b i zk) hF dW_1455 (by decide) rfl rfl ?_
  have hn1 := Nat.le_trans hn z1.1
  have zM := mV_cG hM z1.2.1
  refine y_aload_n (pc := 1457) hF dW_1457 2 rfl ?_
  refine zl_arg (pc := 1458) E dW_1458 dW_1459 dW_1461 dW_1462 dW_1463 rfl rfl (by omega) ?_
  refine zl_arg (pc := 1464) E dW_1464 dW_1465 dW_1467 dW_1468 dW_1469 rfl rfl (by omega) ?_
  refine zl_arg (pc := 1470) E dW_1470 dW_1471 dW_1473 dW_1474 dW_1475 rfl rfl (by omega) ?_
  refine y_ci (cells' := cells + 4) (slots' := slots + 24) (y_rV (pc := 1476) (rest := []) hF (tX11_half hn1 _ _ _ _ _ _ _ _ _ _ _ _ _ _ _ _ _ _ _ _ _ _ _ _ _ _ _ zM hW (zA xs i 1) (zA xs i 2) (zA xs i 3) (zA_r xs i 1) (zA_r xs i 2) (zA_r xs i 3)) dW_1476 (by omega) rfl rfl rfl w_1691 qX11_half rfl ⟨Nat.le_of_ble_eq_true rfl, Nat.le_of_ble_eq_true rfl⟩ ⟨by show cells + 4 ≤ 601024; omega, by show slots + 24 ≤ 7293033; omega⟩ (Nat.le_of_ble_eq_true rfl) rfl) rfl rfl (fun zb n2 σ2 z2 => ?_)
  refine y_istore (pc := 1479) (lv' := zL6 g b i zk zb) hF dW_1479 (by decide) rfl rfl ?_
  have hn2 := Nat.le_trans hn1 z2.1
  have hn3 := Nat.le_trans z1.1 z2.1
  have zt : ∃ A' : aA, zk = σ2 155 0 ∧ (0 ≤ zk ∧ zk ≤ 2) ∧ (zk = 0 → σ2 171 0 = wr zb) ∧ zG (N + 400) σ2 A' := by
    obtain ⟨_, zg, z1⟩ := z1
    obtain ⟨_, z2⟩ := z2
    rcases z1 with ⟨q, rfl, q2, q3⟩ | ⟨q, rfl, q3⟩
    · rcases z2 with ⟨p, p1, p2⟩ | ⟨p, p2⟩
      · exact ⟨_, p2.2.1.symm, (by decide), (fun _ => by rw [p2.1 171 (Or.inr rfl), q2, p1]), cV_mF q3 p2.1, p2.2.2, aW_up hW (by omega)⟩
      · exact absurd q p
    · rcases z2 with ⟨p, p1, p2⟩ | ⟨p, p2⟩
      · exact absurd p q
      · exact ⟨_, p2.2.1.symm, (by decide), (fun z => absurd z (by decide)), cV_mF q3 p2.1, p2.2.2, aW_up (aW_bA hW) (by omega)⟩
  obtain ⟨A', t1, t2, t3, t4⟩ := zt
  exact zl_tail (pc := 1481) E dW_1481 dW_1482 dW_1485 dW_1487 dW_1492 dW_1494 dW_1497 dW_1498 dW_1499 dW_1500 dW_1502 dW_1503 dW_1504 dW_1509 rfl t1 t2 t3 hn2 (by omega) (by omega) (y_wid (by omega) (by omega) (k n2 σ2 A' hn3 t4))
set_option maxHeartbeats 4000000 in
set_option maxRecDepth 100000 in
theorem zc_ahead (E : zE x l g b L xs) {N : Int} {A : aA} (G : zG N σ A) (hN0 : 0 ≤ N) (hN : N ≤ 400000000) (hn : 172 ≤ n) {i : Int} (hi : 0 ≤ i ∧ i + 6 ≤ (L : Int)) (hc : cells + 408 ≤ 601024) (hs : slots + 3660 ≤ 7293033) (k : zK x g b Q n N cells slots i) : yV x g 7 Q (SC g) n σ cells slots 1512 (zL g b i) [] := by
  obtain ⟨w, h, ⟨T, S, F, P, O, nf, df, nl, lg⟩, ⟨s, re, fo, ra, tu, we, sh⟩, H, ht, K, tl, tb, fa, r1, r2⟩ := A
  obtain ⟨hC, hM, hW⟩ := G
  have hF := E.1
  have ZN := hN0
  refine y_aload_n (pc := 1512) hF dW_1512 1 rfl ?_
  refine zl_arg (pc := 1513) E dW_1513 dW_1514 dW_1516 dW_1517 dW_1518 rfl rfl (by omega) ?_
  refine zl_arg (pc := 1519) E dW_1519 dW_1520 dW_1522 dW_1523 dW_1524 rfl rfl (by omega) ?_
  refine y_aload_n (pc := 1525) hF dW_1525 3 rfl ?_
  refine y_ci (cells' := cells + 4) (slots' := slots + 24) (y_rSL (pc := 1526) (na := 4) hF E.2.1 E.2.2.1 (tL_ahead E.2.2.2.1 hn _ _ _ _ _ _ _ _ _ _ _ _ _ _ _ _ _ _ _ _ _ _ _ _ _ _ _ hC hW (zA xs i 1) (zA xs i 2) (zA_r xs i 1) (zA_r xs i 2)) dW_1526 w_1134 w_1135 wl_ahead w_85 ⟨by decide, by decide, by decide +kernel⟩ rfl ⟨Nat.le_of_ble_eq_true rfl, Nat.le_of_ble_eq_true rfl⟩ ⟨by show cells + 4 ≤ 601024; omega, by show slots + 24 ≤ 7293033; omega⟩ (Nat.le_of_ble_eq_true rfl) rfl (rest := [])) rfl rfl (fun zk n1 σ1 z1 => ?_)
  refine y_istore (pc := 1529) (lv' := zL5 g b i zk) hF dW_1529 (by decide) rfl rfl ?_
  have hn1 := Nat.le_trans hn z1.1
  have zM := mV_cG hM z1.2.1
  refine y_aload_n (pc := 1531) hF dW_1531 2 rfl ?_
  refine zl_arg (pc := 1532) E dW_1532 dW_1533 dW_1535 dW_1536 dW_1537 rfl rfl (by omega) ?_
  refine zl_arg (pc := 1538) E dW_1538 dW_1539 dW_1541 dW_1542 dW_1543 rfl rfl (by omega) ?_
  refine y_ci (cells' := cells + 4 + 101) (slots' := slots + 24 + 909) (y_rV (pc := 1544) (rest := []) hF (tX11_ahead hn1 _ _ _ _ _ _ _ _ _ _ _ _ _ _ _ _ _ _ _ _ _ _ _ _ _ _ _ zM hW (zA xs i 1) (zA xs i 2) (zA_r xs i 1) (zA_r xs i 2) hN) dW_1544 (by omega) rfl rfl rfl w_1695 qX11_ahead rfl ⟨Nat.le_of_ble_eq_true rfl, Nat.le_of_ble_eq_true rfl⟩ ⟨by show cells + 4 + 101 ≤ 601024; omega, by show slots + 24 + 909 ≤ 7293033; omega⟩ (Nat.le_of_ble_eq_true rfl) rfl) rfl rfl (fun zb n2 σ2 z2 => ?_)
  refine y_istore (pc := 1547) (lv' := zL6 g b i zk zb) hF dW_1547 (by decide) rfl rfl ?_
  have hn2 := Nat.le_trans hn1 z2.1
  have hn3 := Nat.le_trans z1.1 z2.1
  have zt : ∃ A' : aA, zk = σ2 155 0 ∧ (0 ≤ zk ∧ zk ≤ 2) ∧ (zk = 0 → σ2 171 0 = wr zb) ∧ zG (N + 400) σ2 A' := by
    obtain ⟨_, zg, z1⟩ := z1
    obtain ⟨_, z2⟩ := z2
    rcases z1 with ⟨q, rfl, q2, q3⟩ | ⟨q, rfl, q3⟩
    · rcases z2 with ⟨p, p1, p2⟩ | ⟨p, p2⟩
      · exact ⟨_, p2.2.1.symm, (by decide), (fun _ => by rw [p2.1 171 (Or.inr rfl), q2, p1]), cV_mF q3 p2.1, p2.2.2, aW_up hW (by omega)⟩
      · exact absurd q p
    · rcases z2 with ⟨p, p1, p2⟩ | ⟨p, p2⟩
      · exact absurd p q
      · exact ⟨_, p2.2.1.symm, (by decide), (fun z => absurd z (by decide)), cV_mF q3 p2.1, p2.2.2, aW_up (aW_bA hW) (by omega)⟩
  obtain ⟨A', t1, t2, t3, t4⟩ := zt
  exact zl_tail (pc := 1549) E dW_1549 dW_1550 dW_1553 dW_1555 dW_1560 dW_1562 dW_1565 dW_1566 dW_1567 dW_1568 dW_1570 dW_1571 dW_1572 dW_1577 rfl t1 t2 t3 hn2 (by omega) (by omega) (y_wid (by omega) (by omega) (k n2 σ2 A' hn3 t4))
set_option maxHeartbeats 4000000 in
set_option maxRecDepth 100000 in
theorem zc_flaw (E : zE x l g b L xs) {N : Int} {A : aA} (G : zG N σ A) (hN0 : 0 ≤ N) (hN : N ≤ 400000000) (hn : 172 ≤ n) {i : Int} (hi : 0 ≤ i ∧ i + 6 ≤ (L : Int)) (hc : cells + 408 ≤ 601024) (hs : slots + 3660 ≤ 7293033) (k : zK x g b Q n N cells slots i) : yV x g 7 Q (SC g) n σ cells slots 1580 (zL g b i) [] := by
  obtain ⟨w, h, ⟨T, S, F, P, O, nf, df, nl, lg⟩, ⟨s, re, fo, ra, tu, we, sh⟩, H, ht, K, tl, tb, fa, r1, r2⟩ := A
  obtain ⟨hC, hM, hW⟩ := G
  have hF := E.1
  have ZN := hN0
  refine y_aload_n (pc := 1580) hF dW_1580 1 rfl ?_
  refine y_cp (y_rV (pc := 1581) (rest := []) hF (tX10_flaw hn _ _ _ _ _ _ _ _ _ _ _ _ _ _ _ _ _ _ _ _ _ _ _ _ _ _ _ hC hW) dW_1581 (by omega) rfl rfl rfl w_586 qX10_flaw rfl ⟨Nat.le_of_ble_eq_true rfl, Nat.le_of_ble_eq_true rfl⟩ ⟨by show cells ≤ 601024; omega, by show slots ≤ 7293033; omega⟩ (Nat.le_of_ble_eq_true rfl) rfl) ?_
  have hn1 := hn
  have zM := hM
  refine y_aload_n (pc := 1584) hF dW_1584 2 rfl ?_
  refine y_ci (cells' := cells) (slots' := slots) (y_rV (pc := 1585) (rest := [_]) hF (tX11_flaw hn1 _ _ _ _ _ _ _ _ _ _ _ _ _ _ _ _ _ _ _ _ _ _ _ _ _ _ _ zM hW) dW_1585 (by omega) rfl rfl rfl w_1711 qX11_flaw rfl ⟨Nat.le_of_ble_eq_true rfl, Nat.le_of_ble_eq_true rfl⟩ ⟨by show cells ≤ 601024; omega, by show slots ≤ 7293033; omega⟩ (Nat.le_of_ble_eq_true rfl) rfl) rfl rfl (fun zb n2 σ2 z2 => ?_)
  obtain ⟨z5, zb1, z6⟩ := z2
  subst zb1
  refine y_icmp_same (pc := 1588) hF dW_1588 2060 rfl ?_
  exact y_wid (by omega) (by omega) (k n2 σ2 _ z5 ⟨cV_mF hC z6.1, z6.2.2, aW_up hW (by omega)⟩)
set_option maxHeartbeats 4000000 in
set_option maxRecDepth 100000 in
theorem zc_flawBy (E : zE x l g b L xs) {N : Int} {A : aA} (G : zG N σ A) (hN0 : 0 ≤ N) (hN : N ≤ 400000000) (hn : 172 ≤ n) {i : Int} (hi : 0 ≤ i ∧ i + 6 ≤ (L : Int)) (hc : cells + 408 ≤ 601024) (hs : slots + 3660 ≤ 7293033) (k : zK x g b Q n N cells slots i) : yV x g 7 Q (SC g) n σ cells slots 1593 (zL g b i) [] := by
  obtain ⟨w, h, ⟨T, S, F, P, O, nf, df, nl, lg⟩, ⟨s, re, fo, ra, tu, we, sh⟩, H, ht, K, tl, tb, fa, r1, r2⟩ := A
  obtain ⟨hC, hM, hW⟩ := G
  have hF := E.1
  have ZN := hN0
  refine y_aload_n (pc := 1593) hF dW_1593 1 rfl ?_
  refine zl_arg (pc := 1594) E dW_1594 dW_1595 dW_1597 dW_1598 dW_1599 rfl rfl (by omega) ?_
  refine y_aload_n (pc := 1600) hF dW_1600 3 rfl ?_
  refine y_ci (cells' := cells + 4) (slots' := slots + 24) (y_rSL (pc := 1601) (na := 3) hF E.2.1 E.2.2.1 (tL_flawBy E.2.2.2.1 hn _ _ _ _ _ _ _ _ _ _ _ _ _ _ _ _ _ _ _ _ _ _ _ _ _ _ _ hC hW (zA xs i 1) (zA_r xs i 1)) dW_1601 w_1152 w_1153 wl_flawBy w_85 ⟨by decide, by decide, by decide +kernel⟩ rfl ⟨Nat.le_of_ble_eq_true rfl, Nat.le_of_ble_eq_true rfl⟩ ⟨by show cells + 4 ≤ 601024; omega, by show slots + 24 ≤ 7293033; omega⟩ (Nat.le_of_ble_eq_true rfl) rfl (rest := [])) rfl rfl (fun zk n1 σ1 z1 => ?_)
  refine y_istore (pc := 1604) (lv' := zL5 g b i zk) hF dW_1604 (by decide) rfl rfl ?_
  have hn1 := Nat.le_trans hn z1.1
  have zM := mV_cG hM z1.2.1
  refine y_aload_n (pc := 1606) hF dW_1606 2 rfl ?_
  refine zl_arg (pc := 1607) E dW_1607 dW_1608 dW_1610 dW_1611 dW_1612 rfl rfl (by omega) ?_
  refine y_ci (cells' := cells + 4 + 303) (slots' := slots + 24 + 2727) (y_rV (pc := 1613) (rest := []) hF (tX11_flawBy hn1 _ _ _ _ _ _ _ _ _ _ _ _ _ _ _ _ _ _ _ _ _ _ _ _ _ _ _ zM hW (zA xs i 1) (zA_r xs i 1) hN) dW_1613 (by omega) rfl rfl rfl w_1715 qX11_flawBy rfl ⟨Nat.le_of_ble_eq_true rfl, Nat.le_of_ble_eq_true rfl⟩ ⟨by show cells + 4 + 303 ≤ 601024; omega, by show slots + 24 + 2727 ≤ 7293033; omega⟩ (Nat.le_of_ble_eq_true rfl) rfl) rfl rfl (fun zb n2 σ2 z2 => ?_)
  refine y_istore (pc := 1616) (lv' := zL6 g b i zk zb) hF dW_1616 (by decide) rfl rfl ?_
  have hn2 := Nat.le_trans hn1 z2.1
  have hn3 := Nat.le_trans z1.1 z2.1
  have zt : ∃ A' : aA, zk = σ2 155 0 ∧ (0 ≤ zk ∧ zk ≤ 2) ∧ (zk = 0 → σ2 171 0 = wr zb) ∧ zG (N + 400) σ2 A' := by
    obtain ⟨_, zg, z1⟩ := z1
    obtain ⟨_, z2⟩ := z2
    rcases z1 with ⟨q, rfl, q2, q3⟩ | ⟨q, rfl, q3⟩
    · rcases z2 with ⟨p, p1, p2⟩ | ⟨p, p2⟩
      · exact ⟨_, p2.2.1.symm, (by decide), (fun _ => by rw [p2.1 171 (Or.inr rfl), q2, p1]), cV_mF q3 p2.1, p2.2.2, aW_up hW (by omega)⟩
      · exact absurd q p
    · rcases z2 with ⟨p, p1, p2⟩ | ⟨p, p2⟩
      · exact absurd p q
      · exact ⟨_, p2.2.1.symm, (by decide), (fun z => absurd z (by decide)), cV_mF q3 p2.1, p2.2.2, aW_up (aW_bA hW) (by omega)⟩
  obtain ⟨A', t1, t2, t3, t4⟩ := zt
  exact zl_tail (pc := 1618) E dW_1618 dW_1619 dW_1622 dW_1624 dW_1629 dW_1631 dW_1634 dW_1635 dW_1636 dW_1637 dW_1639 dW_1640 dW_1641 dW_1646 rfl t1 t2 t3 hn2 (by omega) (by omega) (y_wid (by omega) (by omega) (k n2 σ2 A' hn3 t4))
end YLA
