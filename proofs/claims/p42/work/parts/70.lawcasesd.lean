/-! PART 70: the law's cases -/
theorem dL_law_1516 : decode cL_law 1516 = .ok (.aload_n 1, 1) := by decide +kernel
theorem dL_law_1517 : decode cL_law 1517 = .ok (.invokevirtual 249, 3) := by decide +kernel
theorem dL_law_1520 : decode cL_law 1520 = .ok (.pop, 1) := by decide +kernel
theorem dL_law_1521 : decode cL_law 1521 = .ok (.aload_n 2, 1) := by decide +kernel
theorem dL_law_1522 : decode cL_law 1522 = .ok (.invokevirtual 253, 3) := by decide +kernel
theorem dL_law_1525 : decode cL_law 1525 = .ok (.pop, 1) := by decide +kernel
theorem dL_law_1526 : decode cL_law 1526 = .ok (.goto 203, 3) := by decide +kernel
theorem dL_law_1529 : decode cL_law 1529 = .ok (.aload_n 1, 1) := by decide +kernel
theorem dL_law_1530 : decode cL_law 1530 = .ok (.aload_n 0, 1) := by decide +kernel
theorem dL_law_1531 : decode cL_law 1531 = .ok (.iload 4, 2) := by decide +kernel
theorem dL_law_1533 : decode cL_law 1533 = .ok (.iconst 1, 1) := by decide +kernel
theorem dL_law_1534 : decode cL_law 1534 = .ok (.iadd, 1) := by decide +kernel
theorem dL_law_1535 : decode cL_law 1535 = .ok (.iaload, 1) := by decide +kernel
theorem dL_law_1536 : decode cL_law 1536 = .ok (.aload_n 0, 1) := by decide +kernel
theorem dL_law_1537 : decode cL_law 1537 = .ok (.iload 4, 2) := by decide +kernel
theorem dL_law_1539 : decode cL_law 1539 = .ok (.iconst 2, 1) := by decide +kernel
theorem dL_law_1540 : decode cL_law 1540 = .ok (.iadd, 1) := by decide +kernel
theorem dL_law_1541 : decode cL_law 1541 = .ok (.iaload, 1) := by decide +kernel
theorem dL_law_1542 : decode cL_law 1542 = .ok (.aload_n 3, 1) := by decide +kernel
theorem dL_law_1543 : decode cL_law 1543 = .ok (.invokestatic 254, 3) := by decide +kernel
theorem dL_law_1546 : decode cL_law 1546 = .ok (.istore 5, 2) := by decide +kernel
theorem dL_law_1548 : decode cL_law 1548 = .ok (.aload_n 2, 1) := by decide +kernel
theorem dL_law_1549 : decode cL_law 1549 = .ok (.aload_n 0, 1) := by decide +kernel
theorem dL_law_1550 : decode cL_law 1550 = .ok (.iload 4, 2) := by decide +kernel
theorem dL_law_1552 : decode cL_law 1552 = .ok (.iconst 1, 1) := by decide +kernel
theorem dL_law_1553 : decode cL_law 1553 = .ok (.iadd, 1) := by decide +kernel
theorem dL_law_1554 : decode cL_law 1554 = .ok (.iaload, 1) := by decide +kernel
theorem dL_law_1555 : decode cL_law 1555 = .ok (.aload_n 0, 1) := by decide +kernel
theorem dL_law_1556 : decode cL_law 1556 = .ok (.iload 4, 2) := by decide +kernel
theorem dL_law_1558 : decode cL_law 1558 = .ok (.iconst 2, 1) := by decide +kernel
theorem dL_law_1559 : decode cL_law 1559 = .ok (.iadd, 1) := by decide +kernel
theorem dL_law_1560 : decode cL_law 1560 = .ok (.iaload, 1) := by decide +kernel
theorem dL_law_1561 : decode cL_law 1561 = .ok (.invokevirtual 256, 3) := by decide +kernel
theorem dL_law_1564 : decode cL_law 1564 = .ok (.istore 6, 2) := by decide +kernel
theorem dL_law_1566 : decode cL_law 1566 = .ok (.goto 163, 3) := by decide +kernel
theorem dL_law_1569 : decode cL_law 1569 = .ok (.aload_n 1, 1) := by decide +kernel
theorem dL_law_1570 : decode cL_law 1570 = .ok (.aload_n 0, 1) := by decide +kernel
theorem dL_law_1571 : decode cL_law 1571 = .ok (.iload 4, 2) := by decide +kernel
theorem dL_law_1573 : decode cL_law 1573 = .ok (.iconst 1, 1) := by decide +kernel
theorem dL_law_1574 : decode cL_law 1574 = .ok (.iadd, 1) := by decide +kernel
theorem dL_law_1575 : decode cL_law 1575 = .ok (.iaload, 1) := by decide +kernel
theorem dL_law_1576 : decode cL_law 1576 = .ok (.aload_n 0, 1) := by decide +kernel
theorem dL_law_1577 : decode cL_law 1577 = .ok (.iload 4, 2) := by decide +kernel
theorem dL_law_1579 : decode cL_law 1579 = .ok (.iconst 2, 1) := by decide +kernel
theorem dL_law_1580 : decode cL_law 1580 = .ok (.iadd, 1) := by decide +kernel
theorem dL_law_1581 : decode cL_law 1581 = .ok (.iaload, 1) := by decide +kernel
theorem dL_law_1582 : decode cL_law 1582 = .ok (.aload_n 0, 1) := by decide +kernel
theorem dL_law_1583 : decode cL_law 1583 = .ok (.iload 4, 2) := by decide +kernel
theorem dL_law_1585 : decode cL_law 1585 = .ok (.iconst 3, 1) := by decide +kernel
theorem dL_law_1586 : decode cL_law 1586 = .ok (.iadd, 1) := by decide +kernel
theorem dL_law_1587 : decode cL_law 1587 = .ok (.iaload, 1) := by decide +kernel
theorem dL_law_1588 : decode cL_law 1588 = .ok (.aload_n 3, 1) := by decide +kernel
theorem dL_law_1589 : decode cL_law 1589 = .ok (.invokestatic 257, 3) := by decide +kernel
theorem dL_law_1592 : decode cL_law 1592 = .ok (.istore 5, 2) := by decide +kernel
theorem dL_law_1594 : decode cL_law 1594 = .ok (.aload_n 2, 1) := by decide +kernel
theorem dL_law_1595 : decode cL_law 1595 = .ok (.aload_n 0, 1) := by decide +kernel
theorem dL_law_1596 : decode cL_law 1596 = .ok (.iload 4, 2) := by decide +kernel
theorem dL_law_1598 : decode cL_law 1598 = .ok (.iconst 1, 1) := by decide +kernel
theorem dL_law_1599 : decode cL_law 1599 = .ok (.iadd, 1) := by decide +kernel
theorem dL_law_1600 : decode cL_law 1600 = .ok (.iaload, 1) := by decide +kernel
theorem dL_law_1601 : decode cL_law 1601 = .ok (.aload_n 0, 1) := by decide +kernel
theorem dL_law_1602 : decode cL_law 1602 = .ok (.iload 4, 2) := by decide +kernel
theorem dL_law_1604 : decode cL_law 1604 = .ok (.iconst 2, 1) := by decide +kernel
theorem dL_law_1605 : decode cL_law 1605 = .ok (.iadd, 1) := by decide +kernel
theorem dL_law_1606 : decode cL_law 1606 = .ok (.iaload, 1) := by decide +kernel
theorem dL_law_1607 : decode cL_law 1607 = .ok (.aload_n 0, 1) := by decide +kernel
theorem dL_law_1608 : decode cL_law 1608 = .ok (.iload 4, 2) := by decide +kernel
theorem dL_law_1610 : decode cL_law 1610 = .ok (.iconst 3, 1) := by decide +kernel
theorem dL_law_1611 : decode cL_law 1611 = .ok (.iadd, 1) := by decide +kernel
theorem dL_law_1612 : decode cL_law 1612 = .ok (.iaload, 1) := by decide +kernel
theorem dL_law_1613 : decode cL_law 1613 = .ok (.invokevirtual 259, 3) := by decide +kernel
theorem dL_law_1616 : decode cL_law 1616 = .ok (.istore 6, 2) := by decide +kernel
theorem dL_law_1618 : decode cL_law 1618 = .ok (.goto 111, 3) := by decide +kernel
theorem dL_law_1621 : decode cL_law 1621 = .ok (.aload_n 1, 1) := by decide +kernel
theorem dL_law_1622 : decode cL_law 1622 = .ok (.aload_n 0, 1) := by decide +kernel
theorem dL_law_1623 : decode cL_law 1623 = .ok (.iload 4, 2) := by decide +kernel
theorem dL_law_1625 : decode cL_law 1625 = .ok (.iconst 1, 1) := by decide +kernel
theorem dL_law_1626 : decode cL_law 1626 = .ok (.iadd, 1) := by decide +kernel
theorem dL_law_1627 : decode cL_law 1627 = .ok (.iaload, 1) := by decide +kernel
theorem dL_law_1628 : decode cL_law 1628 = .ok (.aload_n 0, 1) := by decide +kernel
theorem dL_law_1629 : decode cL_law 1629 = .ok (.iload 4, 2) := by decide +kernel
theorem dL_law_1631 : decode cL_law 1631 = .ok (.iconst 2, 1) := by decide +kernel
theorem dL_law_1632 : decode cL_law 1632 = .ok (.iadd, 1) := by decide +kernel
theorem dL_law_1633 : decode cL_law 1633 = .ok (.iaload, 1) := by decide +kernel
theorem dL_law_1634 : decode cL_law 1634 = .ok (.aload_n 3, 1) := by decide +kernel
theorem dL_law_1635 : decode cL_law 1635 = .ok (.invokestatic 260, 3) := by decide +kernel
theorem dL_law_1638 : decode cL_law 1638 = .ok (.istore 5, 2) := by decide +kernel
theorem dL_law_1640 : decode cL_law 1640 = .ok (.aload_n 2, 1) := by decide +kernel
theorem dL_law_1641 : decode cL_law 1641 = .ok (.aload_n 0, 1) := by decide +kernel
theorem dL_law_1642 : decode cL_law 1642 = .ok (.iload 4, 2) := by decide +kernel
theorem dL_law_1644 : decode cL_law 1644 = .ok (.iconst 1, 1) := by decide +kernel
theorem dL_law_1645 : decode cL_law 1645 = .ok (.iadd, 1) := by decide +kernel
theorem dL_law_1646 : decode cL_law 1646 = .ok (.iaload, 1) := by decide +kernel
theorem dL_law_1647 : decode cL_law 1647 = .ok (.aload_n 0, 1) := by decide +kernel
theorem dL_law_1648 : decode cL_law 1648 = .ok (.iload 4, 2) := by decide +kernel
theorem dL_law_1650 : decode cL_law 1650 = .ok (.iconst 2, 1) := by decide +kernel
theorem dL_law_1651 : decode cL_law 1651 = .ok (.iadd, 1) := by decide +kernel
theorem dL_law_1652 : decode cL_law 1652 = .ok (.iaload, 1) := by decide +kernel
theorem dL_law_1653 : decode cL_law 1653 = .ok (.invokevirtual 262, 3) := by decide +kernel
theorem dL_law_1656 : decode cL_law 1656 = .ok (.istore 6, 2) := by decide +kernel
theorem dL_law_1658 : decode cL_law 1658 = .ok (.goto 71, 3) := by decide +kernel
theorem dL_law_1661 : decode cL_law 1661 = .ok (.aload_n 1, 1) := by decide +kernel
theorem dL_law_1662 : decode cL_law 1662 = .ok (.aload_n 0, 1) := by decide +kernel
theorem dL_law_1663 : decode cL_law 1663 = .ok (.iload 4, 2) := by decide +kernel
theorem dL_law_1665 : decode cL_law 1665 = .ok (.iconst 1, 1) := by decide +kernel
theorem dL_law_1666 : decode cL_law 1666 = .ok (.iadd, 1) := by decide +kernel
theorem dL_law_1667 : decode cL_law 1667 = .ok (.iaload, 1) := by decide +kernel
theorem dL_law_1668 : decode cL_law 1668 = .ok (.aload_n 3, 1) := by decide +kernel
theorem dL_law_1669 : decode cL_law 1669 = .ok (.invokestatic 263, 3) := by decide +kernel
theorem dL_law_1672 : decode cL_law 1672 = .ok (.istore 5, 2) := by decide +kernel
theorem dL_law_1674 : decode cL_law 1674 = .ok (.aload_n 2, 1) := by decide +kernel
theorem dL_law_1675 : decode cL_law 1675 = .ok (.aload_n 0, 1) := by decide +kernel
theorem dL_law_1676 : decode cL_law 1676 = .ok (.iload 4, 2) := by decide +kernel
theorem dL_law_1678 : decode cL_law 1678 = .ok (.iconst 1, 1) := by decide +kernel
theorem dL_law_1679 : decode cL_law 1679 = .ok (.iadd, 1) := by decide +kernel
theorem dL_law_1680 : decode cL_law 1680 = .ok (.iaload, 1) := by decide +kernel
theorem dL_law_1681 : decode cL_law 1681 = .ok (.invokevirtual 265, 3) := by decide +kernel
theorem dL_law_1684 : decode cL_law 1684 = .ok (.istore 6, 2) := by decide +kernel
theorem dL_law_1686 : decode cL_law 1686 = .ok (.goto 43, 3) := by decide +kernel
theorem dL_law_1689 : decode cL_law 1689 = .ok (.aload_n 1, 1) := by decide +kernel
theorem dL_law_1690 : decode cL_law 1690 = .ok (.invokevirtual 266, 3) := by decide +kernel
theorem dL_law_1693 : decode cL_law 1693 = .ok (.pop, 1) := by decide +kernel
theorem dL_law_1694 : decode cL_law 1694 = .ok (.aload_n 2, 1) := by decide +kernel
theorem dL_law_1695 : decode cL_law 1695 = .ok (.invokevirtual 270, 3) := by decide +kernel
theorem dL_law_1698 : decode cL_law 1698 = .ok (.pop, 1) := by decide +kernel
theorem dL_law_1699 : decode cL_law 1699 = .ok (.goto 30, 3) := by decide +kernel
theorem dL_law_1702 : decode cL_law 1702 = .ok (.aload_n 1, 1) := by decide +kernel
theorem dL_law_1703 : decode cL_law 1703 = .ok (.invokevirtual 271, 3) := by decide +kernel
theorem dL_law_1706 : decode cL_law 1706 = .ok (.pop, 1) := by decide +kernel
theorem dL_law_1707 : decode cL_law 1707 = .ok (.aload_n 2, 1) := by decide +kernel
theorem dL_law_1708 : decode cL_law 1708 = .ok (.invokevirtual 275, 3) := by decide +kernel
theorem dL_law_1711 : decode cL_law 1711 = .ok (.pop, 1) := by decide +kernel
theorem dL_law_1712 : decode cL_law 1712 = .ok (.goto 17, 3) := by decide +kernel
theorem dL_law_1715 : decode cL_law 1715 = .ok (.aload_n 1, 1) := by decide +kernel
theorem dL_law_1716 : decode cL_law 1716 = .ok (.invokevirtual 276, 3) := by decide +kernel
theorem dL_law_1719 : decode cL_law 1719 = .ok (.aload_n 2, 1) := by decide +kernel
theorem dL_law_1720 : decode cL_law 1720 = .ok (.invokevirtual 280, 3) := by decide +kernel
theorem dL_law_1723 : decode cL_law 1723 = .ok (.lcmp, 1) := by decide +kernel
theorem dL_law_1724 : decode cL_law 1724 = .ok (.ifCond .eq 5, 3) := by decide +kernel
set_option maxRecDepth 20000 in
theorem lc_row {X : zX} (C : z_C X cL_law RL 7 room_1) (h_st : (z_l X).stackTraces = false) {b L : Nat} {xs : Nat → Int32} (hX : va_X b L xs (z_s X) (z_s X).heap) (hbl : b < (z_s X).heap.size) (hbA : ¬ z_F X b) {jx : Nat} {a1 a2 a3 a4 : Int32} (hs1 : vp_in (nI (5 * jx) + 1) L ∧ xs (nI (5 * jx) + 1).toNatClampNeg = a1) (hs2 : vp_in (nI (5 * jx) + 2) L ∧ xs (nI (5 * jx) + 2).toNatClampNeg = a2) (hs3 : vp_in (nI (5 * jx) + 3) L ∧ xs (nI (5 * jx) + 3).toNatClampNeg = a3) (hs4 : vp_in (nI (5 * jx) + 4) L ∧ xs (nI (5 * jx) + 4).toNatClampNeg = a4) {u : sS} {x pa sp ln rf sb m pn td ou : Nat} {th : Int32} {on : Int64} {Mw : zM} (hI : s_LX (z_G X) x pa sp ln rf sb m pn td ou u u th on Mw) (hok : s_ok jx u) (hj : jx < 64) {kq nq : Nat} (hkq : kq + 4000 ≤ 600128) (hnq : nq + 60000 ≤ 7301098) (kk : ∀ v th on Mz, s_LX (z_G X) x pa sp ln rf sb m pn td ou v v th on Mz → s_ok (jx + 1) v → z_W X Mz (kq + 4000) (nq + 60000) 27 [(4, .int (nI (5 * (jx + 1)))), (0, .ref b), (1, .ref x), (2, .ref m), (3, .ref ou)] []) : z_W X Mw kq nq 1516 [(4, .int (nI (5 * jx))), (0, .ref b), (1, .ref x), (2, .ref m), (3, .ref ou)] [] := by
  refine z_aload_n C dL_law_1516 rfl 2 rfl ?_
  obtain ⟨lr9, hx9⟩ := s_LX_x hI
  refine z_callVr (rest := []) (k' := kq + 40) (n' := nq + 1500) C (s_LX_Cr hI (v := u) (fun hC9 => by obtain ⟨P, RA, VA, hC⟩ := hC9; exact z_Mr_mono (a_X3_row (z_l X) hC hok) (fun r Mz h => ⟨_, _, _, h⟩))) (cs_L_249 C ⟨Nat.le_of_ble_eq_true rfl, Nat.le_of_ble_eq_true rfl⟩) hx9 rfl rfl rfl rfl (Nat.le_of_ble_eq_true rfl) rfl rfl (by show _ ≤ 600128; omega) (by show _ ≤ 7301098; omega) dL_law_1517 (fun xv0 M1 hq => ?_)
  have hI1 := hq
  refine z_pop C dL_law_1520 rfl ?_
  refine z_aload_n C dL_law_1521 rfl 3 rfl ?_
  obtain ⟨tp9, hm9⟩ := s_LX_m hI1
  refine z_callVr (rest := []) (k' := kq + 40 + 40) (n' := nq + 1500 + 1500) C (s_LX_RT hI1 (k := 0) (fun hR9 => a_X5_row (z_l X) hR9 hok (by omega))) (cs_L_253 C ⟨Nat.le_of_ble_eq_true rfl, Nat.le_of_ble_eq_true rfl⟩) hm9 rfl rfl rfl rfl (Nat.le_of_ble_eq_true rfl) rfl rfl (by show _ ≤ 600128; omega) (by show _ ≤ 7301098; omega) dL_law_1522 (fun xv1 M2 hq => ?_)
  have hI2 := hq
  refine z_pop C dL_law_1525 rfl ?_
  refine z_goto C (tgt := 1729) dL_law_1526 (by decide) ?_
  refine z_iinc (v := nI (5 * (jx + 1))) (lv' := [(4, .int (nI (5 * (jx + 1)))), (0, .ref b), (1, .ref x), (2, .ref m), (3, .ref ou)]) C dL_law_1729 0 rfl (j_inc5 jx) (by decide) rfl ?_
  refine z_goto C (tgt := 27) dL_law_1732 (by decide) ?_
  refine z_fewer [0, 1, 2, 3, 4] rfl ?_
  refine z_widen (k' := kq + 4000) (n' := nq + 60000) (by omega) (by omega) ?_
  exact kk _ _ _ _ hI2 (s_ok_mono hok (Nat.le_succ _))
set_option maxRecDepth 20000 in
theorem lc_isKin {X : zX} (C : z_C X cL_law RL 7 room_1) (h_st : (z_l X).stackTraces = false) {b L : Nat} {xs : Nat → Int32} (hX : va_X b L xs (z_s X) (z_s X).heap) (hbl : b < (z_s X).heap.size) (hbA : ¬ z_F X b) {jx : Nat} {a1 a2 a3 a4 : Int32} (hs1 : vp_in (nI (5 * jx) + 1) L ∧ xs (nI (5 * jx) + 1).toNatClampNeg = a1) (hs2 : vp_in (nI (5 * jx) + 2) L ∧ xs (nI (5 * jx) + 2).toNatClampNeg = a2) (hs3 : vp_in (nI (5 * jx) + 3) L ∧ xs (nI (5 * jx) + 3).toNatClampNeg = a3) (hs4 : vp_in (nI (5 * jx) + 4) L ∧ xs (nI (5 * jx) + 4).toNatClampNeg = a4) {u : sS} {x pa sp ln rf sb m pn td ou : Nat} {th : Int32} {on : Int64} {Mw : zM} (hI : s_LX (z_G X) x pa sp ln rf sb m pn td ou u u th on Mw) (hok : s_ok jx u) (hj : jx < 64) {kq nq : Nat} (hkq : kq + 4000 ≤ 600128) (hnq : nq + 60000 ≤ 7301098) (kk : ∀ v th on Mz, s_LX (z_G X) x pa sp ln rf sb m pn td ou v v th on Mz → s_ok (jx + 1) v → z_W X Mz (kq + 4000) (nq + 60000) 27 [(4, .int (nI (5 * (jx + 1)))), (0, .ref b), (1, .ref x), (2, .ref m), (3, .ref ou)] []) : z_W X Mw kq nq 1529 [(4, .int (nI (5 * jx))), (0, .ref b), (1, .ref x), (2, .ref m), (3, .ref ou)] [] := by
  refine z_aload_n C dL_law_1529 rfl 2 rfl ?_
  refine z_aload_n C dL_law_1530 rfl 1 rfl ?_
  refine z_iload C dL_law_1531 0 rfl ?_
  refine z_iconst C (v := 1) dL_law_1533 (by decide) ?_
  refine z_iadd C dL_law_1534 ?_
  refine z_sld C hX hbl hbA hs1.1 hs1.2 dL_law_1535 ?_
  refine z_aload_n C dL_law_1536 rfl 1 rfl ?_
  refine z_iload C dL_law_1537 0 rfl ?_
  refine z_iconst C (v := 2) dL_law_1539 (by decide) ?_
  refine z_iadd C dL_law_1540 ?_
  refine z_sld C hX hbl hbA hs2.1 hs2.2 dL_law_1541 ?_
  refine z_aload_n C dL_law_1542 rfl 4 rfl ?_
  refine z_callHi (rest := []) (k' := kq + 8) (n' := nq + 48) C (s_LX_P hI (fun hC9 hd9 ho9 => w_isKin (z_l X) h_st hC9 hd9 ho9 hok a1 a2)) (ch_isKin C ⟨Nat.le_of_ble_eq_true rfl, Nat.le_of_ble_eq_true rfl⟩) rfl rfl (Nat.le_of_ble_eq_true rfl) rfl rfl (by show _ ≤ 600128; omega) (by show _ ≤ 7301098; omega) dL_law_1543 (fun xk M1 hq => ?_)
  obtain ⟨hk1, on1, hI1, ho1⟩ := hq
  refine z_istore (lv' := [(5, .int xk), (4, .int (nI (5 * jx))), (0, .ref b), (1, .ref x), (2, .ref m), (3, .ref ou)]) C dL_law_1546 (by decide) rfl ?_
  refine z_aload_n C dL_law_1548 rfl 4 rfl ?_
  refine z_aload_n C dL_law_1549 rfl 2 rfl ?_
  refine z_iload C dL_law_1550 1 rfl ?_
  refine z_iconst C (v := 1) dL_law_1552 (by decide) ?_
  refine z_iadd C dL_law_1553 ?_
  refine z_sld C hX hbl hbA hs1.1 hs1.2 dL_law_1554 ?_
  refine z_aload_n C dL_law_1555 rfl 2 rfl ?_
  refine z_iload C dL_law_1556 1 rfl ?_
  refine z_iconst C (v := 2) dL_law_1558 (by decide) ?_
  refine z_iadd C dL_law_1559 ?_
  refine z_sld C hX hbl hbA hs2.1 hs2.2 dL_law_1560 ?_
  obtain ⟨tp9, hm9⟩ := s_LX_m hI1
  refine z_callVi (rest := []) (k' := kq + 8) (n' := nq + 48) C (s_LX_R hI1 (fun hR9 => a_X5_isKin (z_l X) hR9 hok (by omega) a1 a2)) (cs_L_256 C ⟨Nat.le_of_ble_eq_true rfl, Nat.le_of_ble_eq_true rfl⟩) hm9 rfl rfl rfl rfl (Nat.le_of_ble_eq_true rfl) rfl rfl (by show _ ≤ 600128; omega) (by show _ ≤ 7301098; omega) dL_law_1561 (fun xr M2 hq => ?_)
  obtain ⟨hI2, hr2⟩ := hq
  refine z_istore (lv' := [(6, .int xr), (5, .int xk), (4, .int (nI (5 * jx))), (0, .ref b), (1, .ref x), (2, .ref m), (3, .ref ou)]) C dL_law_1564 (by decide) rfl ?_
  refine z_goto C (tgt := 1729) dL_law_1566 (by decide) ?_
  refine z_iinc (v := nI (5 * (jx + 1))) (lv' := [(4, .int (nI (5 * (jx + 1)))), (6, .int xr), (5, .int xk), (0, .ref b), (1, .ref x), (2, .ref m), (3, .ref ou)]) C dL_law_1729 2 rfl (j_inc5 jx) (by decide) rfl ?_
  refine z_goto C (tgt := 27) dL_law_1732 (by decide) ?_
  refine z_fewer [0, 3, 4, 5, 6] rfl ?_
  refine z_widen (k' := kq + 4000) (n' := nq + 60000) (by omega) (by omega) ?_
  exact kk _ _ _ _ hI2 (so_isKin hok)
set_option maxRecDepth 20000 in
theorem lc_sees {X : zX} (C : z_C X cL_law RL 7 room_1) (h_st : (z_l X).stackTraces = false) {b L : Nat} {xs : Nat → Int32} (hX : va_X b L xs (z_s X) (z_s X).heap) (hbl : b < (z_s X).heap.size) (hbA : ¬ z_F X b) {jx : Nat} {a1 a2 a3 a4 : Int32} (hs1 : vp_in (nI (5 * jx) + 1) L ∧ xs (nI (5 * jx) + 1).toNatClampNeg = a1) (hs2 : vp_in (nI (5 * jx) + 2) L ∧ xs (nI (5 * jx) + 2).toNatClampNeg = a2) (hs3 : vp_in (nI (5 * jx) + 3) L ∧ xs (nI (5 * jx) + 3).toNatClampNeg = a3) (hs4 : vp_in (nI (5 * jx) + 4) L ∧ xs (nI (5 * jx) + 4).toNatClampNeg = a4) {u : sS} {x pa sp ln rf sb m pn td ou : Nat} {th : Int32} {on : Int64} {Mw : zM} (hI : s_LX (z_G X) x pa sp ln rf sb m pn td ou u u th on Mw) (hok : s_ok jx u) (hj : jx < 64) {kq nq : Nat} (hkq : kq + 4000 ≤ 600128) (hnq : nq + 60000 ≤ 7301098) (kk : ∀ v th on Mz, s_LX (z_G X) x pa sp ln rf sb m pn td ou v v th on Mz → s_ok (jx + 1) v → z_W X Mz (kq + 4000) (nq + 60000) 27 [(4, .int (nI (5 * (jx + 1)))), (0, .ref b), (1, .ref x), (2, .ref m), (3, .ref ou)] []) : z_W X Mw kq nq 1569 [(4, .int (nI (5 * jx))), (0, .ref b), (1, .ref x), (2, .ref m), (3, .ref ou)] [] := by
  refine z_aload_n C dL_law_1569 rfl 2 rfl ?_
  refine z_aload_n C dL_law_1570 rfl 1 rfl ?_
  refine z_iload C dL_law_1571 0 rfl ?_
  refine z_iconst C (v := 1) dL_law_1573 (by decide) ?_
  refine z_iadd C dL_law_1574 ?_
  refine z_sld C hX hbl hbA hs1.1 hs1.2 dL_law_1575 ?_
  refine z_aload_n C dL_law_1576 rfl 1 rfl ?_
  refine z_iload C dL_law_1577 0 rfl ?_
  refine z_iconst C (v := 2) dL_law_1579 (by decide) ?_
  refine z_iadd C dL_law_1580 ?_
  refine z_sld C hX hbl hbA hs2.1 hs2.2 dL_law_1581 ?_
  refine z_aload_n C dL_law_1582 rfl 1 rfl ?_
  refine z_iload C dL_law_1583 0 rfl ?_
  refine z_iconst C (v := 3) dL_law_1585 (by decide) ?_
  refine z_iadd C dL_law_1586 ?_
  refine z_sld C hX hbl hbA hs3.1 hs3.2 dL_law_1587 ?_
  refine z_aload_n C dL_law_1588 rfl 4 rfl ?_
  refine z_callHi (rest := []) (k' := kq + 8) (n' := nq + 48) C (s_LX_P hI (fun hC9 hd9 ho9 => w_sees (z_l X) h_st hC9 hd9 ho9 hok a1 a2 a3)) (ch_sees C ⟨Nat.le_of_ble_eq_true rfl, Nat.le_of_ble_eq_true rfl⟩) rfl rfl (Nat.le_of_ble_eq_true rfl) rfl rfl (by show _ ≤ 600128; omega) (by show _ ≤ 7301098; omega) dL_law_1589 (fun xk M1 hq => ?_)
  obtain ⟨hk1, on1, hI1, ho1⟩ := hq
  refine z_istore (lv' := [(5, .int xk), (4, .int (nI (5 * jx))), (0, .ref b), (1, .ref x), (2, .ref m), (3, .ref ou)]) C dL_law_1592 (by decide) rfl ?_
  refine z_aload_n C dL_law_1594 rfl 4 rfl ?_
  refine z_aload_n C dL_law_1595 rfl 2 rfl ?_
  refine z_iload C dL_law_1596 1 rfl ?_
  refine z_iconst C (v := 1) dL_law_1598 (by decide) ?_
  refine z_iadd C dL_law_1599 ?_
  refine z_sld C hX hbl hbA hs1.1 hs1.2 dL_law_1600 ?_
  refine z_aload_n C dL_law_1601 rfl 2 rfl ?_
  refine z_iload C dL_law_1602 1 rfl ?_
  refine z_iconst C (v := 2) dL_law_1604 (by decide) ?_
  refine z_iadd C dL_law_1605 ?_
  refine z_sld C hX hbl hbA hs2.1 hs2.2 dL_law_1606 ?_
  refine z_aload_n C dL_law_1607 rfl 2 rfl ?_
  refine z_iload C dL_law_1608 1 rfl ?_
  refine z_iconst C (v := 3) dL_law_1610 (by decide) ?_
  refine z_iadd C dL_law_1611 ?_
  refine z_sld C hX hbl hbA hs3.1 hs3.2 dL_law_1612 ?_
  obtain ⟨tp9, hm9⟩ := s_LX_m hI1
  refine z_callVi (rest := []) (k' := kq + 8) (n' := nq + 48) C (s_LX_R hI1 (fun hR9 => a_X5_sees (z_l X) hR9 hok (by omega) a1 a2 a3)) (cs_L_259 C ⟨Nat.le_of_ble_eq_true rfl, Nat.le_of_ble_eq_true rfl⟩) hm9 rfl rfl rfl rfl (Nat.le_of_ble_eq_true rfl) rfl rfl (by show _ ≤ 600128; omega) (by show _ ≤ 7301098; omega) dL_law_1613 (fun xr M2 hq => ?_)
  obtain ⟨hI2, hr2⟩ := hq
  refine z_istore (lv' := [(6, .int xr), (5, .int xk), (4, .int (nI (5 * jx))), (0, .ref b), (1, .ref x), (2, .ref m), (3, .ref ou)]) C dL_law_1616 (by decide) rfl ?_
  refine z_goto C (tgt := 1729) dL_law_1618 (by decide) ?_
  refine z_iinc (v := nI (5 * (jx + 1))) (lv' := [(4, .int (nI (5 * (jx + 1)))), (6, .int xr), (5, .int xk), (0, .ref b), (1, .ref x), (2, .ref m), (3, .ref ou)]) C dL_law_1729 2 rfl (j_inc5 jx) (by decide) rfl ?_
  refine z_goto C (tgt := 27) dL_law_1732 (by decide) ?_
  refine z_fewer [0, 3, 4, 5, 6] rfl ?_
  refine z_widen (k' := kq + 4000) (n' := nq + 60000) (by omega) (by omega) ?_
  exact kk _ _ _ _ hI2 (so_sees hok)
set_option maxRecDepth 20000 in
theorem lc_would {X : zX} (C : z_C X cL_law RL 7 room_1) (h_st : (z_l X).stackTraces = false) {b L : Nat} {xs : Nat → Int32} (hX : va_X b L xs (z_s X) (z_s X).heap) (hbl : b < (z_s X).heap.size) (hbA : ¬ z_F X b) {jx : Nat} {a1 a2 a3 a4 : Int32} (hs1 : vp_in (nI (5 * jx) + 1) L ∧ xs (nI (5 * jx) + 1).toNatClampNeg = a1) (hs2 : vp_in (nI (5 * jx) + 2) L ∧ xs (nI (5 * jx) + 2).toNatClampNeg = a2) (hs3 : vp_in (nI (5 * jx) + 3) L ∧ xs (nI (5 * jx) + 3).toNatClampNeg = a3) (hs4 : vp_in (nI (5 * jx) + 4) L ∧ xs (nI (5 * jx) + 4).toNatClampNeg = a4) {u : sS} {x pa sp ln rf sb m pn td ou : Nat} {th : Int32} {on : Int64} {Mw : zM} (hI : s_LX (z_G X) x pa sp ln rf sb m pn td ou u u th on Mw) (hok : s_ok jx u) (hj : jx < 64) {kq nq : Nat} (hkq : kq + 4000 ≤ 600128) (hnq : nq + 60000 ≤ 7301098) (kk : ∀ v th on Mz, s_LX (z_G X) x pa sp ln rf sb m pn td ou v v th on Mz → s_ok (jx + 1) v → z_W X Mz (kq + 4000) (nq + 60000) 27 [(4, .int (nI (5 * (jx + 1)))), (0, .ref b), (1, .ref x), (2, .ref m), (3, .ref ou)] []) : z_W X Mw kq nq 1621 [(4, .int (nI (5 * jx))), (0, .ref b), (1, .ref x), (2, .ref m), (3, .ref ou)] [] := by
  refine z_aload_n C dL_law_1621 rfl 2 rfl ?_
  refine z_aload_n C dL_law_1622 rfl 1 rfl ?_
  refine z_iload C dL_law_1623 0 rfl ?_
  refine z_iconst C (v := 1) dL_law_1625 (by decide) ?_
  refine z_iadd C dL_law_1626 ?_
  refine z_sld C hX hbl hbA hs1.1 hs1.2 dL_law_1627 ?_
  refine z_aload_n C dL_law_1628 rfl 1 rfl ?_
  refine z_iload C dL_law_1629 0 rfl ?_
  refine z_iconst C (v := 2) dL_law_1631 (by decide) ?_
  refine z_iadd C dL_law_1632 ?_
  refine z_sld C hX hbl hbA hs2.1 hs2.2 dL_law_1633 ?_
  refine z_aload_n C dL_law_1634 rfl 4 rfl ?_
  refine z_callHi (rest := []) (k' := kq + 8) (n' := nq + 48) C (s_LX_P hI (fun hC9 hd9 ho9 => w_would (z_l X) h_st hC9 hd9 ho9 hok a1 a2)) (ch_would C ⟨Nat.le_of_ble_eq_true rfl, Nat.le_of_ble_eq_true rfl⟩) rfl rfl (Nat.le_of_ble_eq_true rfl) rfl rfl (by show _ ≤ 600128; omega) (by show _ ≤ 7301098; omega) dL_law_1635 (fun xk M1 hq => ?_)
  obtain ⟨hk1, on1, hI1, ho1⟩ := hq
  refine z_istore (lv' := [(5, .int xk), (4, .int (nI (5 * jx))), (0, .ref b), (1, .ref x), (2, .ref m), (3, .ref ou)]) C dL_law_1638 (by decide) rfl ?_
  refine z_aload_n C dL_law_1640 rfl 4 rfl ?_
  refine z_aload_n C dL_law_1641 rfl 2 rfl ?_
  refine z_iload C dL_law_1642 1 rfl ?_
  refine z_iconst C (v := 1) dL_law_1644 (by decide) ?_
  refine z_iadd C dL_law_1645 ?_
  refine z_sld C hX hbl hbA hs1.1 hs1.2 dL_law_1646 ?_
  refine z_aload_n C dL_law_1647 rfl 2 rfl ?_
  refine z_iload C dL_law_1648 1 rfl ?_
  refine z_iconst C (v := 2) dL_law_1650 (by decide) ?_
  refine z_iadd C dL_law_1651 ?_
  refine z_sld C hX hbl hbA hs2.1 hs2.2 dL_law_1652 ?_
  obtain ⟨tp9, hm9⟩ := s_LX_m hI1
  refine z_callVi (rest := []) (k' := kq + 8) (n' := nq + 48) C (s_LX_R hI1 (fun hR9 => a_X5_would (z_l X) hR9 hok (by omega) a1 a2)) (cs_L_262 C ⟨Nat.le_of_ble_eq_true rfl, Nat.le_of_ble_eq_true rfl⟩) hm9 rfl rfl rfl rfl (Nat.le_of_ble_eq_true rfl) rfl rfl (by show _ ≤ 600128; omega) (by show _ ≤ 7301098; omega) dL_law_1653 (fun xr M2 hq => ?_)
  obtain ⟨hI2, hr2⟩ := hq
  refine z_istore (lv' := [(6, .int xr), (5, .int xk), (4, .int (nI (5 * jx))), (0, .ref b), (1, .ref x), (2, .ref m), (3, .ref ou)]) C dL_law_1656 (by decide) rfl ?_
  refine z_goto C (tgt := 1729) dL_law_1658 (by decide) ?_
  refine z_iinc (v := nI (5 * (jx + 1))) (lv' := [(4, .int (nI (5 * (jx + 1)))), (6, .int xr), (5, .int xk), (0, .ref b), (1, .ref x), (2, .ref m), (3, .ref ou)]) C dL_law_1729 2 rfl (j_inc5 jx) (by decide) rfl ?_
  refine z_goto C (tgt := 27) dL_law_1732 (by decide) ?_
  refine z_fewer [0, 3, 4, 5, 6] rfl ?_
  refine z_widen (k' := kq + 4000) (n' := nq + 60000) (by omega) (by omega) ?_
  exact kk _ _ _ _ hI2 (so_would hok)
set_option maxRecDepth 20000 in
theorem lc_house {X : zX} (C : z_C X cL_law RL 7 room_1) (h_st : (z_l X).stackTraces = false) {b L : Nat} {xs : Nat → Int32} (hX : va_X b L xs (z_s X) (z_s X).heap) (hbl : b < (z_s X).heap.size) (hbA : ¬ z_F X b) {jx : Nat} {a1 a2 a3 a4 : Int32} (hs1 : vp_in (nI (5 * jx) + 1) L ∧ xs (nI (5 * jx) + 1).toNatClampNeg = a1) (hs2 : vp_in (nI (5 * jx) + 2) L ∧ xs (nI (5 * jx) + 2).toNatClampNeg = a2) (hs3 : vp_in (nI (5 * jx) + 3) L ∧ xs (nI (5 * jx) + 3).toNatClampNeg = a3) (hs4 : vp_in (nI (5 * jx) + 4) L ∧ xs (nI (5 * jx) + 4).toNatClampNeg = a4) {u : sS} {x pa sp ln rf sb m pn td ou : Nat} {th : Int32} {on : Int64} {Mw : zM} (hI : s_LX (z_G X) x pa sp ln rf sb m pn td ou u u th on Mw) (hok : s_ok jx u) (hj : jx < 64) {kq nq : Nat} (hkq : kq + 4000 ≤ 600128) (hnq : nq + 60000 ≤ 7301098) (kk : ∀ v th on Mz, s_LX (z_G X) x pa sp ln rf sb m pn td ou v v th on Mz → s_ok (jx + 1) v → z_W X Mz (kq + 4000) (nq + 60000) 27 [(4, .int (nI (5 * (jx + 1)))), (0, .ref b), (1, .ref x), (2, .ref m), (3, .ref ou)] []) : z_W X Mw kq nq 1661 [(4, .int (nI (5 * jx))), (0, .ref b), (1, .ref x), (2, .ref m), (3, .ref ou)] [] := by
  refine z_aload_n C dL_law_1661 rfl 2 rfl ?_
  refine z_aload_n C dL_law_1662 rfl 1 rfl ?_
  refine z_iload C dL_law_1663 0 rfl ?_
  refine z_iconst C (v := 1) dL_law_1665 (by decide) ?_
  refine z_iadd C dL_law_1666 ?_
  refine z_sld C hX hbl hbA hs1.1 hs1.2 dL_law_1667 ?_
  refine z_aload_n C dL_law_1668 rfl 4 rfl ?_
  refine z_callHi (rest := []) (k' := kq + 8) (n' := nq + 48) C (s_LX_P hI (fun hC9 hd9 ho9 => w_house (z_l X) h_st hC9 hd9 ho9 hok a1)) (ch_house C ⟨Nat.le_of_ble_eq_true rfl, Nat.le_of_ble_eq_true rfl⟩) rfl rfl (Nat.le_of_ble_eq_true rfl) rfl rfl (by show _ ≤ 600128; omega) (by show _ ≤ 7301098; omega) dL_law_1669 (fun xk M1 hq => ?_)
  obtain ⟨hk1, on1, hI1, ho1⟩ := hq
  refine z_istore (lv' := [(5, .int xk), (4, .int (nI (5 * jx))), (0, .ref b), (1, .ref x), (2, .ref m), (3, .ref ou)]) C dL_law_1672 (by decide) rfl ?_
  refine z_aload_n C dL_law_1674 rfl 4 rfl ?_
  refine z_aload_n C dL_law_1675 rfl 2 rfl ?_
  refine z_iload C dL_law_1676 1 rfl ?_
  refine z_iconst C (v := 1) dL_law_1678 (by decide) ?_
  refine z_iadd C dL_law_1679 ?_
  refine z_sld C hX hbl hbA hs1.1 hs1.2 dL_law_1680 ?_
  obtain ⟨tp9, hm9⟩ := s_LX_m hI1
  refine z_callVi (rest := []) (k' := kq + 8) (n' := nq + 48) C (s_LX_R hI1 (fun hR9 => a_X5_house (z_l X) hR9 hok (by omega) a1)) (cs_L_265 C ⟨Nat.le_of_ble_eq_true rfl, Nat.le_of_ble_eq_true rfl⟩) hm9 rfl rfl rfl rfl (Nat.le_of_ble_eq_true rfl) rfl rfl (by show _ ≤ 600128; omega) (by show _ ≤ 7301098; omega) dL_law_1681 (fun xr M2 hq => ?_)
  obtain ⟨hI2, hr2⟩ := hq
  refine z_istore (lv' := [(6, .int xr), (5, .int xk), (4, .int (nI (5 * jx))), (0, .ref b), (1, .ref x), (2, .ref m), (3, .ref ou)]) C dL_law_1684 (by decide) rfl ?_
  refine z_goto C (tgt := 1729) dL_law_1686 (by decide) ?_
  refine z_iinc (v := nI (5 * (jx + 1))) (lv' := [(4, .int (nI (5 * (jx + 1)))), (6, .int xr), (5, .int xk), (0, .ref b), (1, .ref x), (2, .ref m), (3, .ref ou)]) C dL_law_1729 2 rfl (j_inc5 jx) (by decide) rfl ?_
  refine z_goto C (tgt := 27) dL_law_1732 (by decide) ?_
  refine z_fewer [0, 3, 4, 5, 6] rfl ?_
  refine z_widen (k' := kq + 4000) (n' := nq + 60000) (by omega) (by omega) ?_
  exact kk _ _ _ _ hI2 (so_house hok)
set_option maxRecDepth 20000 in
theorem lc_knock {X : zX} (C : z_C X cL_law RL 7 room_1) (h_st : (z_l X).stackTraces = false) {b L : Nat} {xs : Nat → Int32} (hX : va_X b L xs (z_s X) (z_s X).heap) (hbl : b < (z_s X).heap.size) (hbA : ¬ z_F X b) {jx : Nat} {a1 a2 a3 a4 : Int32} (hs1 : vp_in (nI (5 * jx) + 1) L ∧ xs (nI (5 * jx) + 1).toNatClampNeg = a1) (hs2 : vp_in (nI (5 * jx) + 2) L ∧ xs (nI (5 * jx) + 2).toNatClampNeg = a2) (hs3 : vp_in (nI (5 * jx) + 3) L ∧ xs (nI (5 * jx) + 3).toNatClampNeg = a3) (hs4 : vp_in (nI (5 * jx) + 4) L ∧ xs (nI (5 * jx) + 4).toNatClampNeg = a4) {u : sS} {x pa sp ln rf sb m pn td ou : Nat} {th : Int32} {on : Int64} {Mw : zM} (hI : s_LX (z_G X) x pa sp ln rf sb m pn td ou u u th on Mw) (hok : s_ok jx u) (hj : jx < 64) {kq nq : Nat} (hkq : kq + 4000 ≤ 600128) (hnq : nq + 60000 ≤ 7301098) (kk : ∀ v th on Mz, s_LX (z_G X) x pa sp ln rf sb m pn td ou v v th on Mz → s_ok (jx + 1) v → z_W X Mz (kq + 4000) (nq + 60000) 27 [(4, .int (nI (5 * (jx + 1)))), (0, .ref b), (1, .ref x), (2, .ref m), (3, .ref ou)] []) : z_W X Mw kq nq 1689 [(4, .int (nI (5 * jx))), (0, .ref b), (1, .ref x), (2, .ref m), (3, .ref ou)] [] := by
  refine z_aload_n C dL_law_1689 rfl 2 rfl ?_
  obtain ⟨lr9, hx9⟩ := s_LX_x hI
  refine z_callVi (rest := []) (k' := kq) (n' := nq) C (s_LX_Ci hI (v := s_ak u (s_ac u) (s_kn u + 1)) (Q := fun r => r = s_kn u + 1) (fun hC9 => by obtain ⟨P, RA, VA, hC⟩ := hC9; exact z_Mi_mono (a_X3_knock (z_l X) hC) (fun r Mz h => h.2))) (cs_L_266 C ⟨Nat.le_of_ble_eq_true rfl, Nat.le_of_ble_eq_true rfl⟩) hx9 rfl rfl rfl rfl (Nat.le_of_ble_eq_true rfl) rfl rfl (by show _ ≤ 600128; omega) (by show _ ≤ 7301098; omega) dL_law_1690 (fun xv0 M1 hq => ?_)
  obtain ⟨hk1, hI1⟩ := hq
  refine z_pop C dL_law_1693 rfl ?_
  refine z_aload_n C dL_law_1694 rfl 3 rfl ?_
  obtain ⟨tp9, hm9⟩ := s_LX_m hI1
  refine z_callVi (rest := []) (k' := kq) (n' := nq) C (s_LX_R hI1 (k := 0) (b := (s_kn u + 1, s_ak u (s_ac u) (s_kn u + 1))) (fun hR9 => a_X5_knock (z_l X) hR9)) (cs_L_270 C ⟨Nat.le_of_ble_eq_true rfl, Nat.le_of_ble_eq_true rfl⟩) hm9 rfl rfl rfl rfl (Nat.le_of_ble_eq_true rfl) rfl rfl (by show _ ≤ 600128; omega) (by show _ ≤ 7301098; omega) dL_law_1695 (fun xv1 M2 hq => ?_)
  obtain ⟨hI2, hr2⟩ := hq
  rw [if_pos rfl] at hI2
  refine z_pop C dL_law_1698 rfl ?_
  refine z_goto C (tgt := 1729) dL_law_1699 (by decide) ?_
  refine z_iinc (v := nI (5 * (jx + 1))) (lv' := [(4, .int (nI (5 * (jx + 1)))), (0, .ref b), (1, .ref x), (2, .ref m), (3, .ref ou)]) C dL_law_1729 0 rfl (j_inc5 jx) (by decide) rfl ?_
  refine z_goto C (tgt := 27) dL_law_1732 (by decide) ?_
  refine z_fewer [0, 1, 2, 3, 4] rfl ?_
  refine z_widen (k' := kq + 4000) (n' := nq + 60000) (by omega) (by omega) ?_
  exact kk _ _ _ _ hI2 (s_ok_mono (s_ok_ak hok _ _) (Nat.le_succ _))
set_option maxRecDepth 20000 in
theorem lc_isSound {X : zX} (C : z_C X cL_law RL 7 room_1) (h_st : (z_l X).stackTraces = false) {b L : Nat} {xs : Nat → Int32} (hX : va_X b L xs (z_s X) (z_s X).heap) (hbl : b < (z_s X).heap.size) (hbA : ¬ z_F X b) {jx : Nat} {a1 a2 a3 a4 : Int32} (hs1 : vp_in (nI (5 * jx) + 1) L ∧ xs (nI (5 * jx) + 1).toNatClampNeg = a1) (hs2 : vp_in (nI (5 * jx) + 2) L ∧ xs (nI (5 * jx) + 2).toNatClampNeg = a2) (hs3 : vp_in (nI (5 * jx) + 3) L ∧ xs (nI (5 * jx) + 3).toNatClampNeg = a3) (hs4 : vp_in (nI (5 * jx) + 4) L ∧ xs (nI (5 * jx) + 4).toNatClampNeg = a4) {u : sS} {x pa sp ln rf sb m pn td ou : Nat} {th : Int32} {on : Int64} {Mw : zM} (hI : s_LX (z_G X) x pa sp ln rf sb m pn td ou u u th on Mw) (hok : s_ok jx u) (hj : jx < 64) {kq nq : Nat} (hkq : kq + 4000 ≤ 600128) (hnq : nq + 60000 ≤ 7301098) (kk : ∀ v th on Mz, s_LX (z_G X) x pa sp ln rf sb m pn td ou v v th on Mz → s_ok (jx + 1) v → z_W X Mz (kq + 4000) (nq + 60000) 27 [(4, .int (nI (5 * (jx + 1)))), (0, .ref b), (1, .ref x), (2, .ref m), (3, .ref ou)] []) : z_W X Mw kq nq 1702 [(4, .int (nI (5 * jx))), (0, .ref b), (1, .ref x), (2, .ref m), (3, .ref ou)] [] := by
  refine z_aload_n C dL_law_1702 rfl 2 rfl ?_
  obtain ⟨lr9, hx9⟩ := s_LX_x hI
  refine z_callVi (rest := []) (k' := kq) (n' := nq) C (s_LX_Ci hI (v := u) (Q := fun r => r = 1) (fun hC9 => by obtain ⟨P, RA, VA, hC⟩ := hC9; exact z_Mi_mono (a_X3_isSound (z_l X) hC hok) (fun r Mz h => ⟨h.1, _, _, _, h.2⟩))) (cs_L_271 C ⟨Nat.le_of_ble_eq_true rfl, Nat.le_of_ble_eq_true rfl⟩) hx9 rfl rfl rfl rfl (Nat.le_of_ble_eq_true rfl) rfl rfl (by show _ ≤ 600128; omega) (by show _ ≤ 7301098; omega) dL_law_1703 (fun xv0 M1 hq => ?_)
  obtain ⟨hk1, hI1⟩ := hq
  refine z_pop C dL_law_1706 rfl ?_
  refine z_aload_n C dL_law_1707 rfl 3 rfl ?_
  obtain ⟨tp9, hm9⟩ := s_LX_m hI1
  refine z_callVi (rest := []) (k' := kq) (n' := nq) C (s_LX_R hI1 (k := 0) (b := (1, u)) (fun hR9 => a_X5_isSound (z_l X) hR9)) (cs_L_275 C ⟨Nat.le_of_ble_eq_true rfl, Nat.le_of_ble_eq_true rfl⟩) hm9 rfl rfl rfl rfl (Nat.le_of_ble_eq_true rfl) rfl rfl (by show _ ≤ 600128; omega) (by show _ ≤ 7301098; omega) dL_law_1708 (fun xv1 M2 hq => ?_)
  obtain ⟨hI2, hr2⟩ := hq
  rw [if_pos rfl] at hI2
  refine z_pop C dL_law_1711 rfl ?_
  refine z_goto C (tgt := 1729) dL_law_1712 (by decide) ?_
  refine z_iinc (v := nI (5 * (jx + 1))) (lv' := [(4, .int (nI (5 * (jx + 1)))), (0, .ref b), (1, .ref x), (2, .ref m), (3, .ref ou)]) C dL_law_1729 0 rfl (j_inc5 jx) (by decide) rfl ?_
  refine z_goto C (tgt := 27) dL_law_1732 (by decide) ?_
  refine z_fewer [0, 1, 2, 3, 4] rfl ?_
  refine z_widen (k' := kq + 4000) (n' := nq + 60000) (by omega) (by omega) ?_
  exact kk _ _ _ _ hI2 (s_ok_mono hok (Nat.le_succ _))
set_option maxRecDepth 20000 in
theorem lc_digest {X : zX} (C : z_C X cL_law RL 7 room_1) (h_st : (z_l X).stackTraces = false) {b L : Nat} {xs : Nat → Int32} (hX : va_X b L xs (z_s X) (z_s X).heap) (hbl : b < (z_s X).heap.size) (hbA : ¬ z_F X b) {jx : Nat} {a1 a2 a3 a4 : Int32} (hs1 : vp_in (nI (5 * jx) + 1) L ∧ xs (nI (5 * jx) + 1).toNatClampNeg = a1) (hs2 : vp_in (nI (5 * jx) + 2) L ∧ xs (nI (5 * jx) + 2).toNatClampNeg = a2) (hs3 : vp_in (nI (5 * jx) + 3) L ∧ xs (nI (5 * jx) + 3).toNatClampNeg = a3) (hs4 : vp_in (nI (5 * jx) + 4) L ∧ xs (nI (5 * jx) + 4).toNatClampNeg = a4) {u : sS} {x pa sp ln rf sb m pn td ou : Nat} {th : Int32} {on : Int64} {Mw : zM} (hI : s_LX (z_G X) x pa sp ln rf sb m pn td ou u u th on Mw) (hok : s_ok jx u) (hj : jx < 64) {kq nq : Nat} (hkq : kq + 4000 ≤ 600128) (hnq : nq + 60000 ≤ 7301098) (kk : ∀ v th on Mz, s_LX (z_G X) x pa sp ln rf sb m pn td ou v v th on Mz → s_ok (jx + 1) v → z_W X Mz (kq + 4000) (nq + 60000) 27 [(4, .int (nI (5 * (jx + 1)))), (0, .ref b), (1, .ref x), (2, .ref m), (3, .ref ou)] []) : z_W X Mw kq nq 1715 [(4, .int (nI (5 * jx))), (0, .ref b), (1, .ref x), (2, .ref m), (3, .ref ou)] [] := by
  refine z_aload_n C dL_law_1715 rfl 2 rfl ?_
  obtain ⟨lr9, hx9⟩ := s_LX_x hI
  refine z_callVl (rest := []) (k' := kq + 468) (n' := nq + 15184) C (s_LX_Cl hI (v := u) (Q := fun r => r = t_digest u) (fun hC9 => by obtain ⟨P, RA, VA, hC⟩ := hC9; exact z_Ml_mono (a_X3_digest (z_l X) hC hok) (fun r Mz h => ⟨h.1, _, _, _, h.2⟩))) (cs_L_276 C ⟨Nat.le_of_ble_eq_true rfl, Nat.le_of_ble_eq_true rfl⟩) hx9 rfl rfl rfl rfl (Nat.le_of_ble_eq_true rfl) rfl rfl (by show _ ≤ 600128; omega) (by show _ ≤ 7301098; omega) dL_law_1716 (fun xv0 M1 hq => ?_)
  obtain ⟨hk1, hI1⟩ := hq
  refine z_aload_n C dL_law_1719 rfl 3 rfl ?_
  obtain ⟨tp9, hm9⟩ := s_LX_m hI1
  refine z_callVl (rest := [.long xv0]) (k' := kq + 468 + 700) (n' := nq + 15184 + 22000) C (s_LX_Rl hI1 (k := 0) (Q := fun r => r = t_digest u) (fun hR9 => z_Ml_mono (a_X5_digest (z_l X) hR9 hok (by omega)) (fun r Mz h => h))) (cs_L_280 C ⟨Nat.le_of_ble_eq_true rfl, Nat.le_of_ble_eq_true rfl⟩) hm9 rfl rfl rfl rfl (Nat.le_of_ble_eq_true rfl) rfl rfl (by show _ ≤ 600128; omega) (by show _ ≤ 7301098; omega) dL_law_1720 (fun xv1 M2 hq => ?_)
  obtain ⟨hr2, hI2⟩ := hq
  refine z_lcmp C dL_law_1723 ?_
  refine z_if_eq C (tgt := 1729) dL_law_1724 (by decide) (fun _ => ?_) (fun c1724 => absurd (by rw [(show xv0 = t_digest u from hk1), (show xv1 = t_digest u from hr2)]; exact lg_cmp_rf _) c1724)
  refine z_iinc (v := nI (5 * (jx + 1))) (lv' := [(4, .int (nI (5 * (jx + 1)))), (0, .ref b), (1, .ref x), (2, .ref m), (3, .ref ou)]) C dL_law_1729 0 rfl (j_inc5 jx) (by decide) rfl ?_
  refine z_goto C (tgt := 27) dL_law_1732 (by decide) ?_
  refine z_fewer [0, 1, 2, 3, 4] rfl ?_
  refine z_widen (k' := kq + 4000) (n' := nq + 60000) (by omega) (by omega) ?_
  exact kk _ _ _ _ hI2 (s_ok_mono hok (Nat.le_succ _))
