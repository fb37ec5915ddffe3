/-! PART 70: the law's cases -/
theorem dL_law_1545 : decode cL_law 1545 = .ok (.aload_n 1, 1) := by decide +kernel
theorem dL_law_1546 : decode cL_law 1546 = .ok (.invokevirtual 253, 3) := by decide +kernel
theorem dL_law_1549 : decode cL_law 1549 = .ok (.pop, 1) := by decide +kernel
theorem dL_law_1550 : decode cL_law 1550 = .ok (.aload_n 2, 1) := by decide +kernel
theorem dL_law_1551 : decode cL_law 1551 = .ok (.invokevirtual 257, 3) := by decide +kernel
theorem dL_law_1554 : decode cL_law 1554 = .ok (.pop, 1) := by decide +kernel
theorem dL_law_1555 : decode cL_law 1555 = .ok (.goto 202, 3) := by decide +kernel
theorem dL_law_1558 : decode cL_law 1558 = .ok (.aload_n 1, 1) := by decide +kernel
theorem dL_law_1559 : decode cL_law 1559 = .ok (.aload_n 0, 1) := by decide +kernel
theorem dL_law_1560 : decode cL_law 1560 = .ok (.iload 4, 2) := by decide +kernel
theorem dL_law_1562 : decode cL_law 1562 = .ok (.iconst 1, 1) := by decide +kernel
theorem dL_law_1563 : decode cL_law 1563 = .ok (.iadd, 1) := by decide +kernel
theorem dL_law_1564 : decode cL_law 1564 = .ok (.iaload, 1) := by decide +kernel
theorem dL_law_1565 : decode cL_law 1565 = .ok (.aload_n 0, 1) := by decide +kernel
theorem dL_law_1566 : decode cL_law 1566 = .ok (.iload 4, 2) := by decide +kernel
theorem dL_law_1568 : decode cL_law 1568 = .ok (.iconst 2, 1) := by decide +kernel
theorem dL_law_1569 : decode cL_law 1569 = .ok (.iadd, 1) := by decide +kernel
theorem dL_law_1570 : decode cL_law 1570 = .ok (.iaload, 1) := by decide +kernel
theorem dL_law_1571 : decode cL_law 1571 = .ok (.aload_n 3, 1) := by decide +kernel
theorem dL_law_1572 : decode cL_law 1572 = .ok (.invokestatic 258, 3) := by decide +kernel
theorem dL_law_1575 : decode cL_law 1575 = .ok (.istore 5, 2) := by decide +kernel
theorem dL_law_1577 : decode cL_law 1577 = .ok (.aload_n 2, 1) := by decide +kernel
theorem dL_law_1578 : decode cL_law 1578 = .ok (.aload_n 0, 1) := by decide +kernel
theorem dL_law_1579 : decode cL_law 1579 = .ok (.iload 4, 2) := by decide +kernel
theorem dL_law_1581 : decode cL_law 1581 = .ok (.iconst 1, 1) := by decide +kernel
theorem dL_law_1582 : decode cL_law 1582 = .ok (.iadd, 1) := by decide +kernel
theorem dL_law_1583 : decode cL_law 1583 = .ok (.iaload, 1) := by decide +kernel
theorem dL_law_1584 : decode cL_law 1584 = .ok (.aload_n 0, 1) := by decide +kernel
theorem dL_law_1585 : decode cL_law 1585 = .ok (.iload 4, 2) := by decide +kernel
theorem dL_law_1587 : decode cL_law 1587 = .ok (.iconst 2, 1) := by decide +kernel
theorem dL_law_1588 : decode cL_law 1588 = .ok (.iadd, 1) := by decide +kernel
theorem dL_law_1589 : decode cL_law 1589 = .ok (.iaload, 1) := by decide +kernel
theorem dL_law_1590 : decode cL_law 1590 = .ok (.invokevirtual 260, 3) := by decide +kernel
theorem dL_law_1593 : decode cL_law 1593 = .ok (.istore 6, 2) := by decide +kernel
theorem dL_law_1595 : decode cL_law 1595 = .ok (.goto 162, 3) := by decide +kernel
theorem dL_law_1598 : decode cL_law 1598 = .ok (.aload_n 1, 1) := by decide +kernel
theorem dL_law_1599 : decode cL_law 1599 = .ok (.aload_n 0, 1) := by decide +kernel
theorem dL_law_1600 : decode cL_law 1600 = .ok (.iload 4, 2) := by decide +kernel
theorem dL_law_1602 : decode cL_law 1602 = .ok (.iconst 1, 1) := by decide +kernel
theorem dL_law_1603 : decode cL_law 1603 = .ok (.iadd, 1) := by decide +kernel
theorem dL_law_1604 : decode cL_law 1604 = .ok (.iaload, 1) := by decide +kernel
theorem dL_law_1605 : decode cL_law 1605 = .ok (.aload_n 0, 1) := by decide +kernel
theorem dL_law_1606 : decode cL_law 1606 = .ok (.iload 4, 2) := by decide +kernel
theorem dL_law_1608 : decode cL_law 1608 = .ok (.iconst 2, 1) := by decide +kernel
theorem dL_law_1609 : decode cL_law 1609 = .ok (.iadd, 1) := by decide +kernel
theorem dL_law_1610 : decode cL_law 1610 = .ok (.iaload, 1) := by decide +kernel
theorem dL_law_1611 : decode cL_law 1611 = .ok (.aload_n 0, 1) := by decide +kernel
theorem dL_law_1612 : decode cL_law 1612 = .ok (.iload 4, 2) := by decide +kernel
theorem dL_law_1614 : decode cL_law 1614 = .ok (.iconst 3, 1) := by decide +kernel
theorem dL_law_1615 : decode cL_law 1615 = .ok (.iadd, 1) := by decide +kernel
theorem dL_law_1616 : decode cL_law 1616 = .ok (.iaload, 1) := by decide +kernel
theorem dL_law_1617 : decode cL_law 1617 = .ok (.aload_n 3, 1) := by decide +kernel
theorem dL_law_1618 : decode cL_law 1618 = .ok (.invokestatic 261, 3) := by decide +kernel
theorem dL_law_1621 : decode cL_law 1621 = .ok (.istore 5, 2) := by decide +kernel
theorem dL_law_1623 : decode cL_law 1623 = .ok (.aload_n 2, 1) := by decide +kernel
theorem dL_law_1624 : decode cL_law 1624 = .ok (.aload_n 0, 1) := by decide +kernel
theorem dL_law_1625 : decode cL_law 1625 = .ok (.iload 4, 2) := by decide +kernel
theorem dL_law_1627 : decode cL_law 1627 = .ok (.iconst 1, 1) := by decide +kernel
theorem dL_law_1628 : decode cL_law 1628 = .ok (.iadd, 1) := by decide +kernel
theorem dL_law_1629 : decode cL_law 1629 = .ok (.iaload, 1) := by decide +kernel
theorem dL_law_1630 : decode cL_law 1630 = .ok (.aload_n 0, 1) := by decide +kernel
theorem dL_law_1631 : decode cL_law 1631 = .ok (.iload 4, 2) := by decide +kernel
theorem dL_law_1633 : decode cL_law 1633 = .ok (.iconst 2, 1) := by decide +kernel
theorem dL_law_1634 : decode cL_law 1634 = .ok (.iadd, 1) := by decide +kernel
theorem dL_law_1635 : decode cL_law 1635 = .ok (.iaload, 1) := by decide +kernel
theorem dL_law_1636 : decode cL_law 1636 = .ok (.aload_n 0, 1) := by decide +kernel
theorem dL_law_1637 : decode cL_law 1637 = .ok (.iload 4, 2) := by decide +kernel
theorem dL_law_1639 : decode cL_law 1639 = .ok (.iconst 3, 1) := by decide +kernel
theorem dL_law_1640 : decode cL_law 1640 = .ok (.iadd, 1) := by decide +kernel
theorem dL_law_1641 : decode cL_law 1641 = .ok (.iaload, 1) := by decide +kernel
theorem dL_law_1642 : decode cL_law 1642 = .ok (.invokevirtual 263, 3) := by decide +kernel
theorem dL_law_1645 : decode cL_law 1645 = .ok (.istore 6, 2) := by decide +kernel
theorem dL_law_1647 : decode cL_law 1647 = .ok (.goto 110, 3) := by decide +kernel
theorem dL_law_1650 : decode cL_law 1650 = .ok (.aload_n 1, 1) := by decide +kernel
theorem dL_law_1651 : decode cL_law 1651 = .ok (.aload_n 0, 1) := by decide +kernel
theorem dL_law_1652 : decode cL_law 1652 = .ok (.iload 4, 2) := by decide +kernel
theorem dL_law_1654 : decode cL_law 1654 = .ok (.iconst 1, 1) := by decide +kernel
theorem dL_law_1655 : decode cL_law 1655 = .ok (.iadd, 1) := by decide +kernel
theorem dL_law_1656 : decode cL_law 1656 = .ok (.iaload, 1) := by decide +kernel
theorem dL_law_1657 : decode cL_law 1657 = .ok (.aload_n 0, 1) := by decide +kernel
theorem dL_law_1658 : decode cL_law 1658 = .ok (.iload 4, 2) := by decide +kernel
theorem dL_law_1660 : decode cL_law 1660 = .ok (.iconst 2, 1) := by decide +kernel
theorem dL_law_1661 : decode cL_law 1661 = .ok (.iadd, 1) := by decide +kernel
theorem dL_law_1662 : decode cL_law 1662 = .ok (.iaload, 1) := by decide +kernel
theorem dL_law_1663 : decode cL_law 1663 = .ok (.aload_n 3, 1) := by decide +kernel
theorem dL_law_1664 : decode cL_law 1664 = .ok (.invokestatic 264, 3) := by decide +kernel
theorem dL_law_1667 : decode cL_law 1667 = .ok (.istore 5, 2) := by decide +kernel
theorem dL_law_1669 : decode cL_law 1669 = .ok (.aload_n 2, 1) := by decide +kernel
theorem dL_law_1670 : decode cL_law 1670 = .ok (.aload_n 0, 1) := by decide +kernel
theorem dL_law_1671 : decode cL_law 1671 = .ok (.iload 4, 2) := by decide +kernel
theorem dL_law_1673 : decode cL_law 1673 = .ok (.iconst 1, 1) := by decide +kernel
theorem dL_law_1674 : decode cL_law 1674 = .ok (.iadd, 1) := by decide +kernel
theorem dL_law_1675 : decode cL_law 1675 = .ok (.iaload, 1) := by decide +kernel
theorem dL_law_1676 : decode cL_law 1676 = .ok (.aload_n 0, 1) := by decide +kernel
theorem dL_law_1677 : decode cL_law 1677 = .ok (.iload 4, 2) := by decide +kernel
theorem dL_law_1679 : decode cL_law 1679 = .ok (.iconst 2, 1) := by decide +kernel
theorem dL_law_1680 : decode cL_law 1680 = .ok (.iadd, 1) := by decide +kernel
theorem dL_law_1681 : decode cL_law 1681 = .ok (.iaload, 1) := by decide +kernel
theorem dL_law_1682 : decode cL_law 1682 = .ok (.invokevirtual 266, 3) := by decide +kernel
theorem dL_law_1685 : decode cL_law 1685 = .ok (.istore 6, 2) := by decide +kernel
theorem dL_law_1687 : decode cL_law 1687 = .ok (.goto 70, 3) := by decide +kernel
theorem dL_law_1690 : decode cL_law 1690 = .ok (.aload_n 1, 1) := by decide +kernel
theorem dL_law_1691 : decode cL_law 1691 = .ok (.aload_n 0, 1) := by decide +kernel
theorem dL_law_1692 : decode cL_law 1692 = .ok (.iload 4, 2) := by decide +kernel
theorem dL_law_1694 : decode cL_law 1694 = .ok (.iconst 1, 1) := by decide +kernel
theorem dL_law_1695 : decode cL_law 1695 = .ok (.iadd, 1) := by decide +kernel
theorem dL_law_1696 : decode cL_law 1696 = .ok (.iaload, 1) := by decide +kernel
theorem dL_law_1697 : decode cL_law 1697 = .ok (.aload_n 3, 1) := by decide +kernel
theorem dL_law_1698 : decode cL_law 1698 = .ok (.invokestatic 267, 3) := by decide +kernel
theorem dL_law_1701 : decode cL_law 1701 = .ok (.istore 5, 2) := by decide +kernel
theorem dL_law_1703 : decode cL_law 1703 = .ok (.aload_n 2, 1) := by decide +kernel
theorem dL_law_1704 : decode cL_law 1704 = .ok (.aload_n 0, 1) := by decide +kernel
theorem dL_law_1705 : decode cL_law 1705 = .ok (.iload 4, 2) := by decide +kernel
theorem dL_law_1707 : decode cL_law 1707 = .ok (.iconst 1, 1) := by decide +kernel
theorem dL_law_1708 : decode cL_law 1708 = .ok (.iadd, 1) := by decide +kernel
theorem dL_law_1709 : decode cL_law 1709 = .ok (.iaload, 1) := by decide +kernel
theorem dL_law_1710 : decode cL_law 1710 = .ok (.invokevirtual 269, 3) := by decide +kernel
theorem dL_law_1713 : decode cL_law 1713 = .ok (.istore 6, 2) := by decide +kernel
theorem dL_law_1715 : decode cL_law 1715 = .ok (.goto 42, 3) := by decide +kernel
theorem dL_law_1718 : decode cL_law 1718 = .ok (.aload_n 1, 1) := by decide +kernel
theorem dL_law_1719 : decode cL_law 1719 = .ok (.invokevirtual 270, 3) := by decide +kernel
theorem dL_law_1722 : decode cL_law 1722 = .ok (.pop, 1) := by decide +kernel
theorem dL_law_1723 : decode cL_law 1723 = .ok (.aload_n 2, 1) := by decide +kernel
theorem dL_law_1724 : decode cL_law 1724 = .ok (.invokevirtual 273, 3) := by decide +kernel
theorem dL_law_1727 : decode cL_law 1727 = .ok (.pop, 1) := by decide +kernel
theorem dL_law_1728 : decode cL_law 1728 = .ok (.goto 29, 3) := by decide +kernel
theorem dL_law_1731 : decode cL_law 1731 = .ok (.aload_n 1, 1) := by decide +kernel
theorem dL_law_1732 : decode cL_law 1732 = .ok (.invokevirtual 274, 3) := by decide +kernel
theorem dL_law_1735 : decode cL_law 1735 = .ok (.pop, 1) := by decide +kernel
theorem dL_law_1736 : decode cL_law 1736 = .ok (.aload_n 2, 1) := by decide +kernel
theorem dL_law_1737 : decode cL_law 1737 = .ok (.invokevirtual 278, 3) := by decide +kernel
theorem dL_law_1740 : decode cL_law 1740 = .ok (.pop, 1) := by decide +kernel
theorem dL_law_1741 : decode cL_law 1741 = .ok (.goto 16, 3) := by decide +kernel
theorem dL_law_1744 : decode cL_law 1744 = .ok (.aload_n 1, 1) := by decide +kernel
theorem dL_law_1745 : decode cL_law 1745 = .ok (.invokevirtual 279, 3) := by decide +kernel
theorem dL_law_1748 : decode cL_law 1748 = .ok (.pop2, 1) := by decide +kernel
theorem dL_law_1749 : decode cL_law 1749 = .ok (.aload_n 2, 1) := by decide +kernel
theorem dL_law_1750 : decode cL_law 1750 = .ok (.invokevirtual 283, 3) := by decide +kernel
theorem dL_law_1753 : decode cL_law 1753 = .ok (.pop2, 1) := by decide +kernel
theorem dL_law_1754 : decode cL_law 1754 = .ok (.goto 3, 3) := by decide +kernel
set_option maxRecDepth 20000 in
theorem lc_row {X : zX} (C : z_C X cL_law RL 7 room_1) (h_st : (z_l X).stackTraces = false) {b L : Nat} {xs : Nat → Int32} (hX : va_X b L xs (z_s X) (z_s X).heap) (hbl : b < (z_s X).heap.size) (hbA : ¬ z_F X b) {jx : Nat} {a1 a2 a3 a4 : Int32} (hs1 : vp_in (nI (5 * jx) + 1) L ∧ xs (nI (5 * jx) + 1).toNatClampNeg = a1) (hs2 : vp_in (nI (5 * jx) + 2) L ∧ xs (nI (5 * jx) + 2).toNatClampNeg = a2) (hs3 : vp_in (nI (5 * jx) + 3) L ∧ xs (nI (5 * jx) + 3).toNatClampNeg = a3) (hs4 : vp_in (nI (5 * jx) + 4) L ∧ xs (nI (5 * jx) + 4).toNatClampNeg = a4) {u : sS} {x pa sp ln rf sb m pn td ou : Nat} {th : Int32} {on : Int64} {Mw : zM} (hI : s_LX (z_G X) x pa sp ln rf sb m pn td ou u u th on Mw) (hok : s_ok jx u) (hj : jx < 64) {kq nq : Nat} (hkq : kq + 4000 ≤ 600128) (hnq : nq + 60000 ≤ 7301098) (kk : ∀ v th on Mz, s_LX (z_G X) x pa sp ln rf sb m pn td ou v v th on Mz → s_ok (jx + 1) v → z_W X Mz (kq + 4000) (nq + 60000) 27 [(4, .int (nI (5 * (jx + 1)))), (0, .ref b), (1, .ref x), (2, .ref m), (3, .ref ou)] []) : z_W X Mw kq nq 1545 [(4, .int (nI (5 * jx))), (0, .ref b), (1, .ref x), (2, .ref m), (3, .ref ou)] [] := by
  refine z_aload_n C dL_law_1545 rfl 2 rfl ?_
  obtain ⟨lr9, hx9⟩ := s_LX_x hI
  refine z_callVr (rest := []) (k' := kq + 40) (n' := nq + 1500) C (s_LX_Cr hI (v := u) (fun hC9 => by obtain ⟨P, RA, VA, hC⟩ := hC9; exact z_Mr_mono (a_X3_row (z_l X) hC hok) (fun r Mz h => ⟨_, _, _, h⟩))) (cs_L_253 C ⟨Nat.le_of_ble_eq_true rfl, Nat.le_of_ble_eq_true rfl⟩) hx9 rfl rfl rfl rfl (Nat.le_of_ble_eq_true rfl) rfl rfl (by show _ ≤ 600128; omega) (by show _ ≤ 7301098; omega) dL_law_1546 (fun xv0 M1 hq => ?_)
  have hI1 := hq
  refine z_pop C dL_law_1549 rfl ?_
  refine z_aload_n C dL_law_1550 rfl 3 rfl ?_
  obtain ⟨tp9, hm9⟩ := s_LX_m hI1
  refine z_callVr (rest := []) (k' := kq + 40 + 40) (n' := nq + 1500 + 1500) C (s_LX_RT hI1 (k := 0) (fun hR9 => a_X5_row (z_l X) hR9 hok (by omega))) (cs_L_257 C ⟨Nat.le_of_ble_eq_true rfl, Nat.le_of_ble_eq_true rfl⟩) hm9 rfl rfl rfl rfl (Nat.le_of_ble_eq_true rfl) rfl rfl (by show _ ≤ 600128; omega) (by show _ ≤ 7301098; omega) dL_law_1551 (fun xv1 M2 hq => ?_)
  have hI2 := hq
  refine z_pop C dL_law_1554 rfl ?_
  refine z_goto C (tgt := 1757) dL_law_1555 (by decide) ?_
  refine z_iinc (v := nI (5 * (jx + 1))) (lv' := [(4, .int (nI (5 * (jx + 1)))), (0, .ref b), (1, .ref x), (2, .ref m), (3, .ref ou)]) C dL_law_1757 0 rfl (j_inc5 jx) (by decide) rfl ?_
  refine z_goto C (tgt := 27) dL_law_1760 (by decide) ?_
  refine z_fewer [0, 1, 2, 3, 4] rfl ?_
  refine z_widen (k' := kq + 4000) (n' := nq + 60000) (by omega) (by omega) ?_
  exact kk _ _ _ _ hI2 (s_ok_mono hok (Nat.le_succ _))
set_option maxRecDepth 20000 in
theorem lc_isKin {X : zX} (C : z_C X cL_law RL 7 room_1) (h_st : (z_l X).stackTraces = false) {b L : Nat} {xs : Nat → Int32} (hX : va_X b L xs (z_s X) (z_s X).heap) (hbl : b < (z_s X).heap.size) (hbA : ¬ z_F X b) {jx : Nat} {a1 a2 a3 a4 : Int32} (hs1 : vp_in (nI (5 * jx) + 1) L ∧ xs (nI (5 * jx) + 1).toNatClampNeg = a1) (hs2 : vp_in (nI (5 * jx) + 2) L ∧ xs (nI (5 * jx) + 2).toNatClampNeg = a2) (hs3 : vp_in (nI (5 * jx) + 3) L ∧ xs (nI (5 * jx) + 3).toNatClampNeg = a3) (hs4 : vp_in (nI (5 * jx) + 4) L ∧ xs (nI (5 * jx) + 4).toNatClampNeg = a4) {u : sS} {x pa sp ln rf sb m pn td ou : Nat} {th : Int32} {on : Int64} {Mw : zM} (hI : s_LX (z_G X) x pa sp ln rf sb m pn td ou u u th on Mw) (hok : s_ok jx u) (hj : jx < 64) {kq nq : Nat} (hkq : kq + 4000 ≤ 600128) (hnq : nq + 60000 ≤ 7301098) (kk : ∀ v th on Mz, s_LX (z_G X) x pa sp ln rf sb m pn td ou v v th on Mz → s_ok (jx + 1) v → z_W X Mz (kq + 4000) (nq + 60000) 27 [(4, .int (nI (5 * (jx + 1)))), (0, .ref b), (1, .ref x), (2, .ref m), (3, .ref ou)] []) : z_W X Mw kq nq 1558 [(4, .int (nI (5 * jx))), (0, .ref b), (1, .ref x), (2, .ref m), (3, .ref ou)] [] := by
  refine z_aload_n C dL_law_1558 rfl 2 rfl ?_
  refine z_aload_n C dL_law_1559 rfl 1 rfl ?_
  refine z_iload C dL_law_1560 0 rfl ?_
  refine z_iconst C (v := 1) dL_law_1562 (by decide) ?_
  refine z_iadd C dL_law_1563 ?_
  refine z_sld C hX hbl hbA hs1.1 hs1.2 dL_law_1564 ?_
  refine z_aload_n C dL_law_1565 rfl 1 rfl ?_
  refine z_iload C dL_law_1566 0 rfl ?_
  refine z_iconst C (v := 2) dL_law_1568 (by decide) ?_
  refine z_iadd C dL_law_1569 ?_
  refine z_sld C hX hbl hbA hs2.1 hs2.2 dL_law_1570 ?_
  refine z_aload_n C dL_law_1571 rfl 4 rfl ?_
  refine z_callHi (rest := []) (k' := kq + 8) (n' := nq + 48) C (s_LX_P hI (fun hC9 hd9 ho9 => w_isKin (z_l X) h_st hC9 hd9 ho9 hok a1 a2)) (ch_isKin C ⟨Nat.le_of_ble_eq_true rfl, Nat.le_of_ble_eq_true rfl⟩) rfl rfl (Nat.le_of_ble_eq_true rfl) rfl rfl (by show _ ≤ 600128; omega) (by show _ ≤ 7301098; omega) dL_law_1572 (fun xk M1 hq => ?_)
  obtain ⟨hk1, on1, hI1, ho1⟩ := hq
  refine z_istore (lv' := [(5, .int xk), (4, .int (nI (5 * jx))), (0, .ref b), (1, .ref x), (2, .ref m), (3, .ref ou)]) C dL_law_1575 (by decide) rfl ?_
  refine z_aload_n C dL_law_1577 rfl 4 rfl ?_
  refine z_aload_n C dL_law_1578 rfl 2 rfl ?_
  refine z_iload C dL_law_1579 1 rfl ?_
  refine z_iconst C (v := 1) dL_law_1581 (by decide) ?_
  refine z_iadd C dL_law_1582 ?_
  refine z_sld C hX hbl hbA hs1.1 hs1.2 dL_law_1583 ?_
  refine z_aload_n C dL_law_1584 rfl 2 rfl ?_
  refine z_iload C dL_law_1585 1 rfl ?_
  refine z_iconst C (v := 2) dL_law_1587 (by decide) ?_
  refine z_iadd C dL_law_1588 ?_
  refine z_sld C hX hbl hbA hs2.1 hs2.2 dL_law_1589 ?_
  obtain ⟨tp9, hm9⟩ := s_LX_m hI1
  refine z_callVi (rest := []) (k' := kq + 8) (n' := nq + 48) C (s_LX_R hI1 (fun hR9 => a_X5_isKin (z_l X) hR9 hok (by omega) a1 a2)) (cs_L_260 C ⟨Nat.le_of_ble_eq_true rfl, Nat.le_of_ble_eq_true rfl⟩) hm9 rfl rfl rfl rfl (Nat.le_of_ble_eq_true rfl) rfl rfl (by show _ ≤ 600128; omega) (by show _ ≤ 7301098; omega) dL_law_1590 (fun xr M2 hq => ?_)
  obtain ⟨hI2, hr2⟩ := hq
  refine z_istore (lv' := [(6, .int xr), (5, .int xk), (4, .int (nI (5 * jx))), (0, .ref b), (1, .ref x), (2, .ref m), (3, .ref ou)]) C dL_law_1593 (by decide) rfl ?_
  refine z_goto C (tgt := 1757) dL_law_1595 (by decide) ?_
  refine z_iinc (v := nI (5 * (jx + 1))) (lv' := [(4, .int (nI (5 * (jx + 1)))), (6, .int xr), (5, .int xk), (0, .ref b), (1, .ref x), (2, .ref m), (3, .ref ou)]) C dL_law_1757 2 rfl (j_inc5 jx) (by decide) rfl ?_
  refine z_goto C (tgt := 27) dL_law_1760 (by decide) ?_
  refine z_fewer [0, 3, 4, 5, 6] rfl ?_
  refine z_widen (k' := kq + 4000) (n' := nq + 60000) (by omega) (by omega) ?_
  exact kk _ _ _ _ hI2 (so_isKin hok)
set_option maxRecDepth 20000 in
theorem lc_sees {X : zX} (C : z_C X cL_law RL 7 room_1) (h_st : (z_l X).stackTraces = false) {b L : Nat} {xs : Nat → Int32} (hX : va_X b L xs (z_s X) (z_s X).heap) (hbl : b < (z_s X).heap.size) (hbA : ¬ z_F X b) {jx : Nat} {a1 a2 a3 a4 : Int32} (hs1 : vp_in (nI (5 * jx) + 1) L ∧ xs (nI (5 * jx) + 1).toNatClampNeg = a1) (hs2 : vp_in (nI (5 * jx) + 2) L ∧ xs (nI (5 * jx) + 2).toNatClampNeg = a2) (hs3 : vp_in (nI (5 * jx) + 3) L ∧ xs (nI (5 * jx) + 3).toNatClampNeg = a3) (hs4 : vp_in (nI (5 * jx) + 4) L ∧ xs (nI (5 * jx) + 4).toNatClampNeg = a4) {u : sS} {x pa sp ln rf sb m pn td ou : Nat} {th : Int32} {on : Int64} {Mw : zM} (hI : s_LX (z_G X) x pa sp ln rf sb m pn td ou u u th on Mw) (hok : s_ok jx u) (hj : jx < 64) {kq nq : Nat} (hkq : kq + 4000 ≤ 600128) (hnq : nq + 60000 ≤ 7301098) (kk : ∀ v th on Mz, s_LX (z_G X) x pa sp ln rf sb m pn td ou v v th on Mz → s_ok (jx + 1) v → z_W X Mz (kq + 4000) (nq + 60000) 27 [(4, .int (nI (5 * (jx + 1)))), (0, .ref b), (1, .ref x), (2, .ref m), (3, .ref ou)] []) : z_W X Mw kq nq 1598 [(4, .int (nI (5 * jx))), (0, .ref b), (1, .ref x), (2, .ref m), (3, .ref ou)] [] := by
  refine z_aload_n C dL_law_1598 rfl 2 rfl ?_
  refine z_aload_n C dL_law_1599 rfl 1 rfl ?_
  refine z_iload C dL_law_1600 0 rfl ?_
  refine z_iconst C (v := 1) dL_law_1602 (by decide) ?_
  refine z_iadd C dL_law_1603 ?_
  refine z_sld C hX hbl hbA hs1.1 hs1.2 dL_law_1604 ?_
  refine z_aload_n C dL_law_1605 rfl 1 rfl ?_
  refine z_iload C dL_law_1606 0 rfl ?_
  refine z_iconst C (v := 2) dL_law_1608 (by decide) ?_
  refine z_iadd C dL_law_1609 ?_
  refine z_sld C hX hbl hbA hs2.1 hs2.2 dL_law_1610 ?_
  refine z_aload_n C dL_law_1611 rfl 1 rfl ?_
  refine z_iload C dL_law_1612 0 rfl ?_
  refine z_iconst C (v := 3) dL_law_1614 (by decide) ?_
  refine z_iadd C dL_law_1615 ?_
  refine z_sld C hX hbl hbA hs3.1 hs3.2 dL_law_1616 ?_
  refine z_aload_n C dL_law_1617 rfl 4 rfl ?_
  refine z_callHi (rest := []) (k' := kq + 8) (n' := nq + 48) C (s_LX_P hI (fun hC9 hd9 ho9 => w_sees (z_l X) h_st hC9 hd9 ho9 hok a1 a2 a3)) (ch_sees C ⟨Nat.le_of_ble_eq_true rfl, Nat.le_of_ble_eq_true rfl⟩) rfl rfl (Nat.le_of_ble_eq_true rfl) rfl rfl (by show _ ≤ 600128; omega) (by show _ ≤ 7301098; omega) dL_law_1618 (fun xk M1 hq => ?_)
  obtain ⟨hk1, on1, hI1, ho1⟩ := hq
  refine z_istore (lv' := [(5, .int xk), (4, .int (nI (5 * jx))), (0, .ref b), (1, .ref x), (2, .ref m), (3, .ref ou)]) C dL_law_1621 (by decide) rfl ?_
  refine z_aload_n C dL_law_1623 rfl 4 rfl ?_
  refine z_aload_n C dL_law_1624 rfl 2 rfl ?_
  refine z_iload C dL_law_1625 1 rfl ?_
  refine z_iconst C (v := 1) dL_law_1627 (by decide) ?_
  refine z_iadd C dL_law_1628 ?_
  refine z_sld C hX hbl hbA hs1.1 hs1.2 dL_law_1629 ?_
  refine z_aload_n C dL_law_1630 rfl 2 rfl ?_
  refine z_iload C dL_law_1631 1 rfl ?_
  refine z_iconst C (v := 2) dL_law_1633 (by decide) ?_
  refine z_iadd C dL_law_1634 ?_
  refine z_sld C hX hbl hbA hs2.1 hs2.2 dL_law_1635 ?_
  refine z_aload_n C dL_law_1636 rfl 2 rfl ?_
  refine z_iload C dL_law_1637 1 rfl ?_
  refine z_iconst C (v := 3) dL_law_1639 (by decide) ?_
  refine z_iadd C dL_law_1640 ?_
  refine z_sld C hX hbl hbA hs3.1 hs3.2 dL_law_1641 ?_
  obtain ⟨tp9, hm9⟩ := s_LX_m hI1
  refine z_callVi (rest := []) (k' := kq + 8) (n' := nq + 48) C (s_LX_R hI1 (fun hR9 => a_X5_sees (z_l X) hR9 hok (by omega) a1 a2 a3)) (cs_L_263 C ⟨Nat.le_of_ble_eq_true rfl, Nat.le_of_ble_eq_true rfl⟩) hm9 rfl rfl rfl rfl (Nat.le_of_ble_eq_true rfl) rfl rfl (by show _ ≤ 600128; omega) (by show _ ≤ 7301098; omega) dL_law_1642 (fun xr M2 hq => ?_)
  obtain ⟨hI2, hr2⟩ := hq
  refine z_istore (lv' := [(6, .int xr), (5, .int xk), (4, .int (nI (5 * jx))), (0, .ref b), (1, .ref x), (2, .ref m), (3, .ref ou)]) C dL_law_1645 (by decide) rfl ?_
  refine z_goto C (tgt := 1757) dL_law_1647 (by decide) ?_
  refine z_iinc (v := nI (5 * (jx + 1))) (lv' := [(4, .int (nI (5 * (jx + 1)))), (6, .int xr), (5, .int xk), (0, .ref b), (1, .ref x), (2, .ref m), (3, .ref ou)]) C dL_law_1757 2 rfl (j_inc5 jx) (by decide) rfl ?_
  refine z_goto C (tgt := 27) dL_law_1760 (by decide) ?_
  refine z_fewer [0, 3, 4, 5, 6] rfl ?_
  refine z_widen (k' := kq + 4000) (n' := nq + 60000) (by omega) (by omega) ?_
  exact kk _ _ _ _ hI2 (so_sees hok)
set_option maxRecDepth 20000 in
theorem lc_would {X : zX} (C : z_C X cL_law RL 7 room_1) (h_st : (z_l X).stackTraces = false) {b L : Nat} {xs : Nat → Int32} (hX : va_X b L xs (z_s X) (z_s X).heap) (hbl : b < (z_s X).heap.size) (hbA : ¬ z_F X b) {jx : Nat} {a1 a2 a3 a4 : Int32} (hs1 : vp_in (nI (5 * jx) + 1) L ∧ xs (nI (5 * jx) + 1).toNatClampNeg = a1) (hs2 : vp_in (nI (5 * jx) + 2) L ∧ xs (nI (5 * jx) + 2).toNatClampNeg = a2) (hs3 : vp_in (nI (5 * jx) + 3) L ∧ xs (nI (5 * jx) + 3).toNatClampNeg = a3) (hs4 : vp_in (nI (5 * jx) + 4) L ∧ xs (nI (5 * jx) + 4).toNatClampNeg = a4) {u : sS} {x pa sp ln rf sb m pn td ou : Nat} {th : Int32} {on : Int64} {Mw : zM} (hI : s_LX (z_G X) x pa sp ln rf sb m pn td ou u u th on Mw) (hok : s_ok jx u) (hj : jx < 64) {kq nq : Nat} (hkq : kq + 4000 ≤ 600128) (hnq : nq + 60000 ≤ 7301098) (kk : ∀ v th on Mz, s_LX (z_G X) x pa sp ln rf sb m pn td ou v v th on Mz → s_ok (jx + 1) v → z_W X Mz (kq + 4000) (nq + 60000) 27 [(4, .int (nI (5 * (jx + 1)))), (0, .ref b), (1, .ref x), (2, .ref m), (3, .ref ou)] []) : z_W X Mw kq nq 1650 [(4, .int (nI (5 * jx))), (0, .ref b), (1, .ref x), (2, .ref m), (3, .ref ou)] [] := by
  refine z_aload_n C dL_law_1650 rfl 2 rfl ?_
  refine z_aload_n C dL_law_1651 rfl 1 rfl ?_
  refine z_iload C dL_law_1652 0 rfl ?_
  refine z_iconst C (v := 1) dL_law_1654 (by decide) ?_
  refine z_iadd C dL_law_1655 ?_
  refine z_sld C hX hbl hbA hs1.1 hs1.2 dL_law_1656 ?_
  refine z_aload_n C dL_law_1657 rfl 1 rfl ?_
  refine z_iload C dL_law_1658 0 rfl ?_
  refine z_iconst C (v := 2) dL_law_1660 (by decide) ?_
  refine z_iadd C dL_law_1661 ?_
  refine z_sld C hX hbl hbA hs2.1 hs2.2 dL_law_1662 ?_
  refine z_aload_n C dL_law_1663 rfl 4 rfl ?_
  refine z_callHi (rest := []) (k' := kq + 8) (n' := nq + 48) C (s_LX_P hI (fun hC9 hd9 ho9 => w_would (z_l X) h_st hC9 hd9 ho9 hok a1 a2)) (ch_would C ⟨Nat.le_of_ble_eq_true rfl, Nat.le_of_ble_eq_true rfl⟩) rfl rfl (Nat.le_of_ble_eq_true rfl) rfl rfl (by show _ ≤ 600128; omega) (by show _ ≤ 7301098; omega) dL_law_1664 (fun xk M1 hq => ?_)
  obtain ⟨hk1, on1, hI1, ho1⟩ := hq
  refine z_istore (lv' := [(5, .int xk), (4, .int (nI (5 * jx))), (0, .ref b), (1, .ref x), (2, .ref m), (3, .ref ou)]) C dL_law_1667 (by decide) rfl ?_
  refine z_aload_n C dL_law_1669 rfl 4 rfl ?_
  refine z_aload_n C dL_law_1670 rfl 2 rfl ?_
  refine z_iload C dL_law_1671 1 rfl ?_
  refine z_iconst C (v := 1) dL_law_1673 (by decide) ?_
  refine z_iadd C dL_law_1674 ?_
  refine z_sld C hX hbl hbA hs1.1 hs1.2 dL_law_1675 ?_
  refine z_aload_n C dL_law_1676 rfl 2 rfl ?_
  refine z_iload C dL_law_1677 1 rfl ?_
  refine z_iconst C (v := 2) dL_law_1679 (by decide) ?_
  refine z_iadd C dL_law_1680 ?_
  refine z_sld C hX hbl hbA hs2.1 hs2.2 dL_law_1681 ?_
  obtain ⟨tp9, hm9⟩ := s_LX_m hI1
  refine z_callVi (rest := []) (k' := kq + 8) (n' := nq + 48) C (s_LX_R hI1 (fun hR9 => a_X5_would (z_l X) hR9 hok (by omega) a1 a2)) (cs_L_266 C ⟨Nat.le_of_ble_eq_true rfl, Nat.le_of_ble_eq_true rfl⟩) hm9 rfl rfl rfl rfl (Nat.le_of_ble_eq_true rfl) rfl rfl (by show _ ≤ 600128; omega) (by show _ ≤ 7301098; omega) dL_law_1682 (fun xr M2 hq => ?_)
  obtain ⟨hI2, hr2⟩ := hq
  refine z_istore (lv' := [(6, .int xr), (5, .int xk), (4, .int (nI (5 * jx))), (0, .ref b), (1, .ref x), (2, .ref m), (3, .ref ou)]) C dL_law_1685 (by decide) rfl ?_
  refine z_goto C (tgt := 1757) dL_law_1687 (by decide) ?_
  refine z_iinc (v := nI (5 * (jx + 1))) (lv' := [(4, .int (nI (5 * (jx + 1)))), (6, .int xr), (5, .int xk), (0, .ref b), (1, .ref x), (2, .ref m), (3, .ref ou)]) C dL_law_1757 2 rfl (j_inc5 jx) (by decide) rfl ?_
  refine z_goto C (tgt := 27) dL_law_1760 (by decide) ?_
  refine z_fewer [0, 3, 4, 5, 6] rfl ?_
  refine z_widen (k' := kq + 4000) (n' := nq + 60000) (by omega) (by omega) ?_
  exact kk _ _ _ _ hI2 (so_would hok)
set_option maxRecDepth 20000 in
theorem lc_house {X : zX} (C : z_C X cL_law RL 7 room_1) (h_st : (z_l X).stackTraces = false) {b L : Nat} {xs : Nat → Int32} (hX : va_X b L xs (z_s X) (z_s X).heap) (hbl : b < (z_s X).heap.size) (hbA : ¬ z_F X b) {jx : Nat} {a1 a2 a3 a4 : Int32} (hs1 : vp_in (nI (5 * jx) + 1) L ∧ xs (nI (5 * jx) + 1).toNatClampNeg = a1) (hs2 : vp_in (nI (5 * jx) + 2) L ∧ xs (nI (5 * jx) + 2).toNatClampNeg = a2) (hs3 : vp_in (nI (5 * jx) + 3) L ∧ xs (nI (5 * jx) + 3).toNatClampNeg = a3) (hs4 : vp_in (nI (5 * jx) + 4) L ∧ xs (nI (5 * jx) + 4).toNatClampNeg = a4) {u : sS} {x pa sp ln rf sb m pn td ou : Nat} {th : Int32} {on : Int64} {Mw : zM} (hI : s_LX (z_G X) x pa sp ln rf sb m pn td ou u u th on Mw) (hok : s_ok jx u) (hj : jx < 64) {kq nq : Nat} (hkq : kq + 4000 ≤ 600128) (hnq : nq + 60000 ≤ 7301098) (kk : ∀ v th on Mz, s_LX (z_G X) x pa sp ln rf sb m pn td ou v v th on Mz → s_ok (jx + 1) v → z_W X Mz (kq + 4000) (nq + 60000) 27 [(4, .int (nI (5 * (jx + 1)))), (0, .ref b), (1, .ref x), (2, .ref m), (3, .ref ou)] []) : z_W X Mw kq nq 1690 [(4, .int (nI (5 * jx))), (0, .ref b), (1, .ref x), (2, .ref m), (3, .ref ou)] [] := by
  refine z_aload_n C dL_law_1690 rfl 2 rfl ?_
  refine z_aload_n C dL_law_1691 rfl 1 rfl ?_
  refine z_iload C dL_law_1692 0 rfl ?_
  refine z_iconst C (v := 1) dL_law_1694 (by decide) ?_
  refine z_iadd C dL_law_1695 ?_
  refine z_sld C hX hbl hbA hs1.1 hs1.2 dL_law_1696 ?_
  refine z_aload_n C dL_law_1697 rfl 4 rfl ?_
  refine z_callHi (rest := []) (k' := kq + 8) (n' := nq + 48) C (s_LX_P hI (fun hC9 hd9 ho9 => w_house (z_l X) h_st hC9 hd9 ho9 hok a1)) (ch_house C ⟨Nat.le_of_ble_eq_true rfl, Nat.le_of_ble_eq_true rfl⟩) rfl rfl (Nat.le_of_ble_eq_true rfl) rfl rfl (by show _ ≤ 600128; omega) (by show _ ≤ 7301098; omega) dL_law_1698 (fun xk M1 hq => ?_)
  obtain ⟨hk1, on1, hI1, ho1⟩ := hq
  refine z_istore (lv' := [(5, .int xk), (4, .int (nI (5 * jx))), (0, .ref b), (1, .ref x), (2, .ref m), (3, .ref ou)]) C dL_law_1701 (by decide) rfl ?_
  refine z_aload_n C dL_law_1703 rfl 4 rfl ?_
  refine z_aload_n C dL_law_1704 rfl 2 rfl ?_
  refine z_iload C dL_law_1705 1 rfl ?_
  refine z_iconst C (v := 1) dL_law_1707 (by decide) ?_
  refine z_iadd C dL_law_1708 ?_
  refine z_sld C hX hbl hbA hs1.1 hs1.2 dL_law_1709 ?_
  obtain ⟨tp9, hm9⟩ := s_LX_m hI1
  refine z_callVi (rest := []) (k' := kq + 8) (n' := nq + 48) C (s_LX_R hI1 (fun hR9 => a_X5_house (z_l X) hR9 hok (by omega) a1)) (cs_L_269 C ⟨Nat.le_of_ble_eq_true rfl, Nat.le_of_ble_eq_true rfl⟩) hm9 rfl rfl rfl rfl (Nat.le_of_ble_eq_true rfl) rfl rfl (by show _ ≤ 600128; omega) (by show _ ≤ 7301098; omega) dL_law_1710 (fun xr M2 hq => ?_)
  obtain ⟨hI2, hr2⟩ := hq
  refine z_istore (lv' := [(6, .int xr), (5, .int xk), (4, .int (nI (5 * jx))), (0, .ref b), (1, .ref x), (2, .ref m), (3, .ref ou)]) C dL_law_1713 (by decide) rfl ?_
  refine z_goto C (tgt := 1757) dL_law_1715 (by decide) ?_
  refine z_iinc (v := nI (5 * (jx + 1))) (lv' := [(4, .int (nI (5 * (jx + 1)))), (6, .int xr), (5, .int xk), (0, .ref b), (1, .ref x), (2, .ref m), (3, .ref ou)]) C dL_law_1757 2 rfl (j_inc5 jx) (by decide) rfl ?_
  refine z_goto C (tgt := 27) dL_law_1760 (by decide) ?_
  refine z_fewer [0, 3, 4, 5, 6] rfl ?_
  refine z_widen (k' := kq + 4000) (n' := nq + 60000) (by omega) (by omega) ?_
  exact kk _ _ _ _ hI2 (so_house hok)
set_option maxRecDepth 20000 in
theorem lc_knock {X : zX} (C : z_C X cL_law RL 7 room_1) (h_st : (z_l X).stackTraces = false) {b L : Nat} {xs : Nat → Int32} (hX : va_X b L xs (z_s X) (z_s X).heap) (hbl : b < (z_s X).heap.size) (hbA : ¬ z_F X b) {jx : Nat} {a1 a2 a3 a4 : Int32} (hs1 : vp_in (nI (5 * jx) + 1) L ∧ xs (nI (5 * jx) + 1).toNatClampNeg = a1) (hs2 : vp_in (nI (5 * jx) + 2) L ∧ xs (nI (5 * jx) + 2).toNatClampNeg = a2) (hs3 : vp_in (nI (5 * jx) + 3) L ∧ xs (nI (5 * jx) + 3).toNatClampNeg = a3) (hs4 : vp_in (nI (5 * jx) + 4) L ∧ xs (nI (5 * jx) + 4).toNatClampNeg = a4) {u : sS} {x pa sp ln rf sb m pn td ou : Nat} {th : Int32} {on : Int64} {Mw : zM} (hI : s_LX (z_G X) x pa sp ln rf sb m pn td ou u u th on Mw) (hok : s_ok jx u) (hj : jx < 64) {kq nq : Nat} (hkq : kq + 4000 ≤ 600128) (hnq : nq + 60000 ≤ 7301098) (kk : ∀ v th on Mz, s_LX (z_G X) x pa sp ln rf sb m pn td ou v v th on Mz → s_ok (jx + 1) v → z_W X Mz (kq + 4000) (nq + 60000) 27 [(4, .int (nI (5 * (jx + 1)))), (0, .ref b), (1, .ref x), (2, .ref m), (3, .ref ou)] []) : z_W X Mw kq nq 1718 [(4, .int (nI (5 * jx))), (0, .ref b), (1, .ref x), (2, .ref m), (3, .ref ou)] [] := by
  refine z_aload_n C dL_law_1718 rfl 2 rfl ?_
  obtain ⟨lr9, hx9⟩ := s_LX_x hI
  refine z_callVi (rest := []) (k' := kq) (n' := nq) C (s_LX_Ci hI (v := s_ak u (s_ac u) (s_kn u + 1)) (Q := fun r => r = s_kn u + 1) (fun hC9 => by obtain ⟨P, RA, VA, hC⟩ := hC9; exact z_Mi_mono (a_X3_knock (z_l X) hC) (fun r Mz h => h.2))) (cs_L_270 C ⟨Nat.le_of_ble_eq_true rfl, Nat.le_of_ble_eq_true rfl⟩) hx9 rfl rfl rfl rfl (Nat.le_of_ble_eq_true rfl) rfl rfl (by show _ ≤ 600128; omega) (by show _ ≤ 7301098; omega) dL_law_1719 (fun xv0 M1 hq => ?_)
  obtain ⟨hk1, hI1⟩ := hq
  refine z_pop C dL_law_1722 rfl ?_
  refine z_aload_n C dL_law_1723 rfl 3 rfl ?_
  obtain ⟨tp9, hm9⟩ := s_LX_m hI1
  refine z_callVi (rest := []) (k' := kq) (n' := nq) C (s_LX_R hI1 (k := 0) (b := (s_kn u + 1, s_ak u (s_ac u) (s_kn u + 1))) (fun hR9 => a_X5_knock (z_l X) hR9)) (cs_L_273 C ⟨Nat.le_of_ble_eq_true rfl, Nat.le_of_ble_eq_true rfl⟩) hm9 rfl rfl rfl rfl (Nat.le_of_ble_eq_true rfl) rfl rfl (by show _ ≤ 600128; omega) (by show _ ≤ 7301098; omega) dL_law_1724 (fun xv1 M2 hq => ?_)
  obtain ⟨hI2, hr2⟩ := hq
  rw [if_pos rfl] at hI2
  refine z_pop C dL_law_1727 rfl ?_
  refine z_goto C (tgt := 1757) dL_law_1728 (by decide) ?_
  refine z_iinc (v := nI (5 * (jx + 1))) (lv' := [(4, .int (nI (5 * (jx + 1)))), (0, .ref b), (1, .ref x), (2, .ref m), (3, .ref ou)]) C dL_law_1757 0 rfl (j_inc5 jx) (by decide) rfl ?_
  refine z_goto C (tgt := 27) dL_law_1760 (by decide) ?_
  refine z_fewer [0, 1, 2, 3, 4] rfl ?_
  refine z_widen (k' := kq + 4000) (n' := nq + 60000) (by omega) (by omega) ?_
  exact kk _ _ _ _ hI2 (s_ok_mono (s_ok_ak hok _ _) (Nat.le_succ _))
set_option maxRecDepth 20000 in
theorem lc_isSound {X : zX} (C : z_C X cL_law RL 7 room_1) (h_st : (z_l X).stackTraces = false) {b L : Nat} {xs : Nat → Int32} (hX : va_X b L xs (z_s X) (z_s X).heap) (hbl : b < (z_s X).heap.size) (hbA : ¬ z_F X b) {jx : Nat} {a1 a2 a3 a4 : Int32} (hs1 : vp_in (nI (5 * jx) + 1) L ∧ xs (nI (5 * jx) + 1).toNatClampNeg = a1) (hs2 : vp_in (nI (5 * jx) + 2) L ∧ xs (nI (5 * jx) + 2).toNatClampNeg = a2) (hs3 : vp_in (nI (5 * jx) + 3) L ∧ xs (nI (5 * jx) + 3).toNatClampNeg = a3) (hs4 : vp_in (nI (5 * jx) + 4) L ∧ xs (nI (5 * jx) + 4).toNatClampNeg = a4) {u : sS} {x pa sp ln rf sb m pn td ou : Nat} {th : Int32} {on : Int64} {Mw : zM} (hI : s_LX (z_G X) x pa sp ln rf sb m pn td ou u u th on Mw) (hok : s_ok jx u) (hj : jx < 64) {kq nq : Nat} (hkq : kq + 4000 ≤ 600128) (hnq : nq + 60000 ≤ 7301098) (kk : ∀ v th on Mz, s_LX (z_G X) x pa sp ln rf sb m pn td ou v v th on Mz → s_ok (jx + 1) v → z_W X Mz (kq + 4000) (nq + 60000) 27 [(4, .int (nI (5 * (jx + 1)))), (0, .ref b), (1, .ref x), (2, .ref m), (3, .ref ou)] []) : z_W X Mw kq nq 1731 [(4, .int (nI (5 * jx))), (0, .ref b), (1, .ref x), (2, .ref m), (3, .ref ou)] [] := by
  refine z_aload_n C dL_law_1731 rfl 2 rfl ?_
  obtain ⟨lr9, hx9⟩ := s_LX_x hI
  refine z_callVi (rest := []) (k' := kq) (n' := nq) C (s_LX_Ci hI (v := u) (Q := fun r => r = 1) (fun hC9 => by obtain ⟨P, RA, VA, hC⟩ := hC9; exact z_Mi_mono (a_X3_isSound (z_l X) hC hok) (fun r Mz h => ⟨h.1, _, _, _, h.2⟩))) (cs_L_274 C ⟨Nat.le_of_ble_eq_true rfl, Nat.le_of_ble_eq_true rfl⟩) hx9 rfl rfl rfl rfl (Nat.le_of_ble_eq_true rfl) rfl rfl (by show _ ≤ 600128; omega) (by show _ ≤ 7301098; omega) dL_law_1732 (fun xv0 M1 hq => ?_)
  obtain ⟨hk1, hI1⟩ := hq
  refine z_pop C dL_law_1735 rfl ?_
  refine z_aload_n C dL_law_1736 rfl 3 rfl ?_
  obtain ⟨tp9, hm9⟩ := s_LX_m hI1
  refine z_callVi (rest := []) (k' := kq) (n' := nq) C (s_LX_R hI1 (k := 0) (b := (1, u)) (fun hR9 => a_X5_isSound (z_l X) hR9)) (cs_L_278 C ⟨Nat.le_of_ble_eq_true rfl, Nat.le_of_ble_eq_true rfl⟩) hm9 rfl rfl rfl rfl (Nat.le_of_ble_eq_true rfl) rfl rfl (by show _ ≤ 600128; omega) (by show _ ≤ 7301098; omega) dL_law_1737 (fun xv1 M2 hq => ?_)
  obtain ⟨hI2, hr2⟩ := hq
  rw [if_pos rfl] at hI2
  refine z_pop C dL_law_1740 rfl ?_
  refine z_goto C (tgt := 1757) dL_law_1741 (by decide) ?_
  refine z_iinc (v := nI (5 * (jx + 1))) (lv' := [(4, .int (nI (5 * (jx + 1)))), (0, .ref b), (1, .ref x), (2, .ref m), (3, .ref ou)]) C dL_law_1757 0 rfl (j_inc5 jx) (by decide) rfl ?_
  refine z_goto C (tgt := 27) dL_law_1760 (by decide) ?_
  refine z_fewer [0, 1, 2, 3, 4] rfl ?_
  refine z_widen (k' := kq + 4000) (n' := nq + 60000) (by omega) (by omega) ?_
  exact kk _ _ _ _ hI2 (s_ok_mono hok (Nat.le_succ _))
set_option maxRecDepth 20000 in
theorem lc_digest {X : zX} (C : z_C X cL_law RL 7 room_1) (h_st : (z_l X).stackTraces = false) {b L : Nat} {xs : Nat → Int32} (hX : va_X b L xs (z_s X) (z_s X).heap) (hbl : b < (z_s X).heap.size) (hbA : ¬ z_F X b) {jx : Nat} {a1 a2 a3 a4 : Int32} (hs1 : vp_in (nI (5 * jx) + 1) L ∧ xs (nI (5 * jx) + 1).toNatClampNeg = a1) (hs2 : vp_in (nI (5 * jx) + 2) L ∧ xs (nI (5 * jx) + 2).toNatClampNeg = a2) (hs3 : vp_in (nI (5 * jx) + 3) L ∧ xs (nI (5 * jx) + 3).toNatClampNeg = a3) (hs4 : vp_in (nI (5 * jx) + 4) L ∧ xs (nI (5 * jx) + 4).toNatClampNeg = a4) {u : sS} {x pa sp ln rf sb m pn td ou : Nat} {th : Int32} {on : Int64} {Mw : zM} (hI : s_LX (z_G X) x pa sp ln rf sb m pn td ou u u th on Mw) (hok : s_ok jx u) (hj : jx < 64) {kq nq : Nat} (hkq : kq + 4000 ≤ 600128) (hnq : nq + 60000 ≤ 7301098) (kk : ∀ v th on Mz, s_LX (z_G X) x pa sp ln rf sb m pn td ou v v th on Mz → s_ok (jx + 1) v → z_W X Mz (kq + 4000) (nq + 60000) 27 [(4, .int (nI (5 * (jx + 1)))), (0, .ref b), (1, .ref x), (2, .ref m), (3, .ref ou)] []) : z_W X Mw kq nq 1744 [(4, .int (nI (5 * jx))), (0, .ref b), (1, .ref x), (2, .ref m), (3, .ref ou)] [] := by
  refine z_aload_n C dL_law_1744 rfl 2 rfl ?_
  obtain ⟨lr9, hx9⟩ := s_LX_x hI
  refine z_callVl (rest := []) (k' := kq + 468) (n' := nq + 15184) C (s_LX_Cl hI (v := u) (Q := fun _ => True) (fun hC9 => by obtain ⟨P, RA, VA, hC⟩ := hC9; exact z_Ml_mono (a_X3_digest (z_l X) hC hok) (fun r Mz h => ⟨trivial, _, _, _, h⟩))) (cs_L_279 C ⟨Nat.le_of_ble_eq_true rfl, Nat.le_of_ble_eq_true rfl⟩) hx9 rfl rfl rfl rfl (Nat.le_of_ble_eq_true rfl) rfl rfl (by show _ ≤ 600128; omega) (by show _ ≤ 7301098; omega) dL_law_1745 (fun xv0 M1 hq => ?_)
  obtain ⟨-, hI1⟩ := hq
  refine z_pop2 C dL_law_1748 ?_
  refine z_aload_n C dL_law_1749 rfl 3 rfl ?_
  obtain ⟨tp9, hm9⟩ := s_LX_m hI1
  refine z_callVl (rest := []) (k' := kq + 468 + 700) (n' := nq + 15184 + 22000) C (s_LX_Rl hI1 (k := 0) (Q := fun _ => True) (fun hR9 => z_Ml_mono (a_X5_digest (z_l X) hR9 hok (by omega)) (fun r Mz h => ⟨trivial, h⟩))) (cs_L_283 C ⟨Nat.le_of_ble_eq_true rfl, Nat.le_of_ble_eq_true rfl⟩) hm9 rfl rfl rfl rfl (Nat.le_of_ble_eq_true rfl) rfl rfl (by show _ ≤ 600128; omega) (by show _ ≤ 7301098; omega) dL_law_1750 (fun xv1 M2 hq => ?_)
  obtain ⟨-, hI2⟩ := hq
  refine z_pop2 C dL_law_1753 ?_
  refine z_goto C (tgt := 1757) dL_law_1754 (by decide) ?_
  refine z_iinc (v := nI (5 * (jx + 1))) (lv' := [(4, .int (nI (5 * (jx + 1)))), (0, .ref b), (1, .ref x), (2, .ref m), (3, .ref ou)]) C dL_law_1757 0 rfl (j_inc5 jx) (by decide) rfl ?_
  refine z_goto C (tgt := 27) dL_law_1760 (by decide) ?_
  refine z_fewer [0, 1, 2, 3, 4] rfl ?_
  refine z_widen (k' := kq + 4000) (n' := nq + 60000) (by omega) (by omega) ?_
  exact kk _ _ _ _ hI2 (s_ok_mono hok (Nat.le_succ _))
