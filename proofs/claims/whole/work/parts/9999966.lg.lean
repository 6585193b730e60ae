theorem dW_1649 : decode code 1649 = .ok (.aload_n 1, 1) := by decide +kernel
theorem dW_1650 : decode code 1650 = .ok (.aload_n 0, 1) := by decide +kernel
theorem dW_1651 : decode code 1651 = .ok (.iload 4, 2) := by decide +kernel
theorem dW_1653 : decode code 1653 = .ok (.iconst 1, 1) := by decide +kernel
theorem dW_1654 : decode code 1654 = .ok (.iadd, 1) := by decide +kernel
theorem dW_1655 : decode code 1655 = .ok (.iaload, 1) := by decide +kernel
theorem dW_1656 : decode code 1656 = .ok (.aload_n 3, 1) := by decide +kernel
theorem dW_1657 : decode code 1657 = .ok (.invokestatic 185, 3) := by decide +kernel
theorem dW_1660 : decode code 1660 = .ok (.istore 5, 2) := by decide +kernel
theorem dW_1662 : decode code 1662 = .ok (.aload_n 2, 1) := by decide +kernel
theorem dW_1663 : decode code 1663 = .ok (.aload_n 0, 1) := by decide +kernel
theorem dW_1664 : decode code 1664 = .ok (.iload 4, 2) := by decide +kernel
theorem dW_1666 : decode code 1666 = .ok (.iconst 1, 1) := by decide +kernel
theorem dW_1667 : decode code 1667 = .ok (.iadd, 1) := by decide +kernel
theorem dW_1668 : decode code 1668 = .ok (.iaload, 1) := by decide +kernel
theorem dW_1669 : decode code 1669 = .ok (.invokevirtual 187, 3) := by decide +kernel
theorem dW_1672 : decode code 1672 = .ok (.istore 6, 2) := by decide +kernel
theorem dW_1674 : decode code 1674 = .ok (.aload_n 2, 1) := by decide +kernel
theorem dW_1675 : decode code 1675 = .ok (.invokevirtual 107, 3) := by decide +kernel
theorem dW_1678 : decode code 1678 = .ok (.iload 5, 2) := by decide +kernel
theorem dW_1680 : decode code 1680 = .ok (.if_icmp .eq 5, 3) := by decide +kernel
theorem dW_1685 : decode code 1685 = .ok (.iload 5, 2) := by decide +kernel
theorem dW_1687 : decode code 1687 = .ok (.ifCond .ne 15, 3) := by decide +kernel
theorem dW_1690 : decode code 1690 = .ok (.aload_n 3, 1) := by decide +kernel
theorem dW_1691 : decode code 1691 = .ok (.iconst 0, 1) := by decide +kernel
theorem dW_1692 : decode code 1692 = .ok (.laload, 1) := by decide +kernel
theorem dW_1693 : decode code 1693 = .ok (.iload 6, 2) := by decide +kernel
theorem dW_1695 : decode code 1695 = .ok (.i2l, 1) := by decide +kernel
theorem dW_1696 : decode code 1696 = .ok (.lcmp, 1) := by decide +kernel
theorem dW_1697 : decode code 1697 = .ok (.ifCond .eq 5, 3) := by decide +kernel
theorem dW_1702 : decode code 1702 = .ok (.goto 358, 3) := by decide +kernel
theorem dW_1705 : decode code 1705 = .ok (.aload_n 1, 1) := by decide +kernel
theorem dW_1706 : decode code 1706 = .ok (.aload_n 0, 1) := by decide +kernel
theorem dW_1707 : decode code 1707 = .ok (.iload 4, 2) := by decide +kernel
theorem dW_1709 : decode code 1709 = .ok (.iconst 1, 1) := by decide +kernel
theorem dW_1710 : decode code 1710 = .ok (.iadd, 1) := by decide +kernel
theorem dW_1711 : decode code 1711 = .ok (.iaload, 1) := by decide +kernel
theorem dW_1712 : decode code 1712 = .ok (.aload_n 0, 1) := by decide +kernel
theorem dW_1713 : decode code 1713 = .ok (.iload 4, 2) := by decide +kernel
theorem dW_1715 : decode code 1715 = .ok (.iconst 2, 1) := by decide +kernel
theorem dW_1716 : decode code 1716 = .ok (.iadd, 1) := by decide +kernel
theorem dW_1717 : decode code 1717 = .ok (.iaload, 1) := by decide +kernel
theorem dW_1718 : decode code 1718 = .ok (.aload_n 0, 1) := by decide +kernel
theorem dW_1719 : decode code 1719 = .ok (.iload 4, 2) := by decide +kernel
theorem dW_1721 : decode code 1721 = .ok (.iconst 3, 1) := by decide +kernel
theorem dW_1722 : decode code 1722 = .ok (.iadd, 1) := by decide +kernel
theorem dW_1723 : decode code 1723 = .ok (.iaload, 1) := by decide +kernel
theorem dW_1724 : decode code 1724 = .ok (.aload_n 3, 1) := by decide +kernel
theorem dW_1725 : decode code 1725 = .ok (.invokestatic 188, 3) := by decide +kernel
theorem dW_1728 : decode code 1728 = .ok (.istore 5, 2) := by decide +kernel
theorem dW_1730 : decode code 1730 = .ok (.aload_n 2, 1) := by decide +kernel
theorem dW_1731 : decode code 1731 = .ok (.aload_n 0, 1) := by decide +kernel
theorem dW_1732 : decode code 1732 = .ok (.iload 4, 2) := by decide +kernel
theorem dW_1734 : decode code 1734 = .ok (.iconst 1, 1) := by decide +kernel
theorem dW_1735 : decode code 1735 = .ok (.iadd, 1) := by decide +kernel
theorem dW_1736 : decode code 1736 = .ok (.iaload, 1) := by decide +kernel
theorem dW_1737 : decode code 1737 = .ok (.aload_n 0, 1) := by decide +kernel
theorem dW_1738 : decode code 1738 = .ok (.iload 4, 2) := by decide +kernel
theorem dW_1740 : decode code 1740 = .ok (.iconst 2, 1) := by decide +kernel
theorem dW_1741 : decode code 1741 = .ok (.iadd, 1) := by decide +kernel
theorem dW_1742 : decode code 1742 = .ok (.iaload, 1) := by decide +kernel
theorem dW_1743 : decode code 1743 = .ok (.aload_n 0, 1) := by decide +kernel
theorem dW_1744 : decode code 1744 = .ok (.iload 4, 2) := by decide +kernel
theorem dW_1746 : decode code 1746 = .ok (.iconst 3, 1) := by decide +kernel
theorem dW_1747 : decode code 1747 = .ok (.iadd, 1) := by decide +kernel
theorem dW_1748 : decode code 1748 = .ok (.iaload, 1) := by decide +kernel
theorem dW_1749 : decode code 1749 = .ok (.invokevirtual 190, 3) := by decide +kernel
theorem dW_1752 : decode code 1752 = .ok (.istore 6, 2) := by decide +kernel
theorem dW_1754 : decode code 1754 = .ok (.aload_n 2, 1) := by decide +kernel
theorem dW_1755 : decode code 1755 = .ok (.invokevirtual 107, 3) := by decide +kernel
theorem dW_1758 : decode code 1758 = .ok (.iload 5, 2) := by decide +kernel
theorem dW_1760 : decode code 1760 = .ok (.if_icmp .eq 5, 3) := by decide +kernel
theorem dW_1765 : decode code 1765 = .ok (.iload 5, 2) := by decide +kernel
theorem dW_1767 : decode code 1767 = .ok (.ifCond .ne 15, 3) := by decide +kernel
theorem dW_1770 : decode code 1770 = .ok (.aload_n 3, 1) := by decide +kernel
theorem dW_1771 : decode code 1771 = .ok (.iconst 0, 1) := by decide +kernel
theorem dW_1772 : decode code 1772 = .ok (.laload, 1) := by decide +kernel
theorem dW_1773 : decode code 1773 = .ok (.iload 6, 2) := by decide +kernel
theorem dW_1775 : decode code 1775 = .ok (.i2l, 1) := by decide +kernel
theorem dW_1776 : decode code 1776 = .ok (.lcmp, 1) := by decide +kernel
theorem dW_1777 : decode code 1777 = .ok (.ifCond .eq 5, 3) := by decide +kernel
theorem dW_1782 : decode code 1782 = .ok (.goto 278, 3) := by decide +kernel
theorem dW_1785 : decode code 1785 = .ok (.aload_n 1, 1) := by decide +kernel
theorem dW_1786 : decode code 1786 = .ok (.aload_n 0, 1) := by decide +kernel
theorem dW_1787 : decode code 1787 = .ok (.iload 4, 2) := by decide +kernel
theorem dW_1789 : decode code 1789 = .ok (.iconst 1, 1) := by decide +kernel
theorem dW_1790 : decode code 1790 = .ok (.iadd, 1) := by decide +kernel
theorem dW_1791 : decode code 1791 = .ok (.iaload, 1) := by decide +kernel
theorem dW_1792 : decode code 1792 = .ok (.aload_n 3, 1) := by decide +kernel
theorem dW_1793 : decode code 1793 = .ok (.invokestatic 191, 3) := by decide +kernel
theorem dW_1796 : decode code 1796 = .ok (.istore 5, 2) := by decide +kernel
theorem dW_1798 : decode code 1798 = .ok (.aload_n 2, 1) := by decide +kernel
theorem dW_1799 : decode code 1799 = .ok (.aload_n 0, 1) := by decide +kernel
theorem dW_1800 : decode code 1800 = .ok (.iload 4, 2) := by decide +kernel
theorem dW_1802 : decode code 1802 = .ok (.iconst 1, 1) := by decide +kernel
theorem dW_1803 : decode code 1803 = .ok (.iadd, 1) := by decide +kernel
theorem dW_1804 : decode code 1804 = .ok (.iaload, 1) := by decide +kernel
theorem dW_1805 : decode code 1805 = .ok (.invokevirtual 193, 3) := by decide +kernel
theorem dW_1808 : decode code 1808 = .ok (.istore 6, 2) := by decide +kernel
theorem dW_1810 : decode code 1810 = .ok (.aload_n 2, 1) := by decide +kernel
theorem dW_1811 : decode code 1811 = .ok (.invokevirtual 107, 3) := by decide +kernel
theorem dW_1814 : decode code 1814 = .ok (.iload 5, 2) := by decide +kernel
theorem dW_1816 : decode code 1816 = .ok (.if_icmp .eq 5, 3) := by decide +kernel
theorem dW_1821 : decode code 1821 = .ok (.iload 5, 2) := by decide +kernel
theorem dW_1823 : decode code 1823 = .ok (.ifCond .ne 15, 3) := by decide +kernel
theorem dW_1826 : decode code 1826 = .ok (.aload_n 3, 1) := by decide +kernel
theorem dW_1827 : decode code 1827 = .ok (.iconst 0, 1) := by decide +kernel
theorem dW_1828 : decode code 1828 = .ok (.laload, 1) := by decide +kernel
theorem dW_1829 : decode code 1829 = .ok (.iload 6, 2) := by decide +kernel
theorem dW_1831 : decode code 1831 = .ok (.i2l, 1) := by decide +kernel
theorem dW_1832 : decode code 1832 = .ok (.lcmp, 1) := by decide +kernel
theorem dW_1833 : decode code 1833 = .ok (.ifCond .eq 5, 3) := by decide +kernel
theorem dW_1838 : decode code 1838 = .ok (.goto 222, 3) := by decide +kernel
theorem dW_1841 : decode code 1841 = .ok (.aload_n 1, 1) := by decide +kernel
theorem dW_1842 : decode code 1842 = .ok (.aload_n 0, 1) := by decide +kernel
theorem dW_1843 : decode code 1843 = .ok (.iload 4, 2) := by decide +kernel
theorem dW_1845 : decode code 1845 = .ok (.iconst 1, 1) := by decide +kernel
theorem dW_1846 : decode code 1846 = .ok (.iadd, 1) := by decide +kernel
theorem dW_1847 : decode code 1847 = .ok (.iaload, 1) := by decide +kernel
theorem dW_1848 : decode code 1848 = .ok (.aload_n 3, 1) := by decide +kernel
theorem dW_1849 : decode code 1849 = .ok (.invokestatic 194, 3) := by decide +kernel
theorem dW_1852 : decode code 1852 = .ok (.istore 5, 2) := by decide +kernel
theorem dW_1854 : decode code 1854 = .ok (.aload_n 2, 1) := by decide +kernel
theorem dW_1855 : decode code 1855 = .ok (.aload_n 0, 1) := by decide +kernel
theorem dW_1856 : decode code 1856 = .ok (.iload 4, 2) := by decide +kernel
theorem dW_1858 : decode code 1858 = .ok (.iconst 1, 1) := by decide +kernel
theorem dW_1859 : decode code 1859 = .ok (.iadd, 1) := by decide +kernel
theorem dW_1860 : decode code 1860 = .ok (.iaload, 1) := by decide +kernel
theorem dW_1861 : decode code 1861 = .ok (.invokevirtual 196, 3) := by decide +kernel
theorem dW_1864 : decode code 1864 = .ok (.istore 6, 2) := by decide +kernel
theorem dW_1866 : decode code 1866 = .ok (.aload_n 2, 1) := by decide +kernel
theorem dW_1867 : decode code 1867 = .ok (.invokevirtual 107, 3) := by decide +kernel
theorem dW_1870 : decode code 1870 = .ok (.iload 5, 2) := by decide +kernel
theorem dW_1872 : decode code 1872 = .ok (.if_icmp .eq 5, 3) := by decide +kernel
theorem dW_1877 : decode code 1877 = .ok (.iload 5, 2) := by decide +kernel
theorem dW_1879 : decode code 1879 = .ok (.ifCond .ne 15, 3) := by decide +kernel
theorem dW_1882 : decode code 1882 = .ok (.aload_n 3, 1) := by decide +kernel
theorem dW_1883 : decode code 1883 = .ok (.iconst 0, 1) := by decide +kernel
theorem dW_1884 : decode code 1884 = .ok (.laload, 1) := by decide +kernel
theorem dW_1885 : decode code 1885 = .ok (.iload 6, 2) := by decide +kernel
theorem dW_1887 : decode code 1887 = .ok (.i2l, 1) := by decide +kernel
theorem dW_1888 : decode code 1888 = .ok (.lcmp, 1) := by decide +kernel
theorem dW_1889 : decode code 1889 = .ok (.ifCond .eq 5, 3) := by decide +kernel
theorem dW_1894 : decode code 1894 = .ok (.goto 166, 3) := by decide +kernel
section YLA
variable {x : yC} {l : Launch} {g : yG} {b L : Nat} {xs : Nat → Int32} {Q : State → Prop} {n : Nat} {σ : yM} {cells slots : Nat}
set_option maxHeartbeats 4000000 in
set_option maxRecDepth 100000 in
theorem zc_tune (E : zE x l g b L xs) {N : Int} {A : aA} (G : zG N σ A) (hN0 : 0 ≤ N) (hN : N ≤ 400000000) (hn : 172 ≤ n) {i : Int} (hi : 0 ≤ i ∧ i + 6 ≤ (L : Int)) (hc : cells + 408 ≤ 601024) (hs : slots + 3660 ≤ 7293033) (k : zK x g b Q n N cells slots i) : yV x g 7 Q (SC g) n σ cells slots 1649 (zL g b i) [] := by
  obtain ⟨w, h, ⟨T, S, F, P, O, nf, df, nl, lg⟩, ⟨s, re, fo, ra, tu, we, sh⟩, H, ht, K, tl, tb, fa, r1, r2⟩ := A
  obtain ⟨hC, hM, hW⟩ := G
  have hF := E.1
  have ZN := hN0
  refine y_aload_n (pc := 1649) hF dW_1649 1 rfl ?_
  refine zl_arg (pc := 1650) E dW_1650 dW_1651 dW_1653 dW_1654 dW_1655 rfl rfl (by omega) ?_
  refine y_aload_n (pc := 1656) hF dW_1656 3 rfl ?_
  refine y_ci (cells' := cells + 4) (slots' := slots + 24) (y_rSL (pc := 1657) (na := 3) hF E.2.1 E.2.2.1 (tL_tune E.2.2.2.1 hn _ _ _ _ _ _ _ _ _ _ _ _ _ _ _ _ _ _ _ _ _ _ _ _ _ _ _ hC hW (zA xs i 1) (zA_r xs i 1)) dW_1657 w_1160 w_1161 wl_tune w_85 ⟨by decide, by decide, by decide +kernel⟩ rfl ⟨Nat.le_of_ble_eq_true rfl, Nat.le_of_ble_eq_true rfl⟩ ⟨by show cells + 4 ≤ 601024; omega, by show slots + 24 ≤ 7293033; omega⟩ (Nat.le_of_ble_eq_true rfl) rfl (rest := [])) rfl rfl (fun zk n1 σ1 z1 => ?_)
  refine y_istore (pc := 1660) (lv' := zL5 g b i zk) hF dW_1660 (by decide) rfl rfl ?_
  have hn1 := Nat.le_trans hn z1.1
  have zM := mV_cG hM z1.2.1
  refine y_aload_n (pc := 1662) hF dW_1662 2 rfl ?_
  refine zl_arg (pc := 1663) E dW_1663 dW_1664 dW_1666 dW_1667 dW_1668 rfl rfl (by omega) ?_
  refine y_ci (cells' := cells + 4 + 303) (slots' := slots + 24 + 2727) (y_rV (pc := 1669) (rest := []) hF (tX11_tune hn1 _ _ _ _ _ _ _ _ _ _ _ _ _ _ _ _ _ _ _ _ _ _ _ _ _ _ _ zM hW (zA xs i 1) (zA_r xs i 1) hN) dW_1669 (by omega) rfl rfl rfl w_1720 qX11_tune rfl ⟨Nat.le_of_ble_eq_true rfl, Nat.le_of_ble_eq_true rfl⟩ ⟨by show cells + 4 + 303 ≤ 601024; omega, by show slots + 24 + 2727 ≤ 7293033; omega⟩ (Nat.le_of_ble_eq_true rfl) rfl) rfl rfl (fun zb n2 σ2 z2 => ?_)
  refine y_istore (pc := 1672) (lv' := zL6 g b i zk zb) hF dW_1672 (by decide) rfl rfl ?_
  have hn2 := Nat.le_trans hn1 z2.1
  have hn3 := Nat.le_trans z1.1 z2.1
  have zt : ∃ A' : aA, zk = σ2 155 0 ∧ (0 ≤ zk ∧ zk ≤ 2) ∧ (zk = 0 → σ2 171 0 = wr zb) ∧ zG (N + 400) σ2 A' := by
    obtain ⟨_, zg, z1⟩ := z1
    obtain ⟨_, z2⟩ := z2
    rcases z1 with ⟨q, rfl, q2, q3⟩ | ⟨q, rfl, q3⟩
    · rcases z2 with ⟨p, p1, p2⟩ | ⟨p, p2⟩
      · exact ⟨_, p2.2.1.symm, (by decide), (fun _ => by rw [p2.1 171 (Or.inr rfl), q2, p1]), cV_mF q3 p2.1, p2.2.2, aW_up hW (by omega)⟩
      · exact absurd q p
    · rcases z2 with ⟨p, p1, p2⟩ | ⟨p, p2⟩
      · exact absurd p q
      · exact ⟨_, p2.2.1.symm, (by decide), (fun z => absurd z (by decide)), cV_mF q3 p2.1, p2.2.2, aW_up (aW_bA hW) (by omega)⟩
  obtain ⟨A', t1, t2, t3, t4⟩ := zt
  exact zl_tail (pc := 1674) E dW_1674 dW_1675 dW_1678 dW_1680 dW_1685 dW_1687 dW_1690 dW_1691 dW_1692 dW_1693 dW_1695 dW_1696 dW_1697 dW_1702 rfl t1 t2 t3 hn2 (by omega) (by omega) (y_wid (by omega) (by omega) (k n2 σ2 A' hn3 t4))
set_option maxHeartbeats 4000000 in
set_option maxRecDepth 100000 in
theorem zc_reach (E : zE x l g b L xs) {N : Int} {A : aA} (G : zG N σ A) (hN0 : 0 ≤ N) (hN : N ≤ 400000000) (hn : 172 ≤ n) {i : Int} (hi : 0 ≤ i ∧ i + 6 ≤ (L : Int)) (hc : cells + 408 ≤ 601024) (hs : slots + 3660 ≤ 7293033) (k : zK x g b Q n N cells slots i) : yV x g 7 Q (SC g) n σ cells slots 1705 (zL g b i) [] := by
  obtain ⟨w, h, ⟨T, S, F, P, O, nf, df, nl, lg⟩, ⟨s, re, fo, ra, tu, we, sh⟩, H, ht, K, tl, tb, fa, r1, r2⟩ := A
  obtain ⟨hC, hM, hW⟩ := G
  have hF := E.1
  have ZN := hN0
  refine y_aload_n (pc := 1705) hF dW_1705 1 rfl ?_
  refine zl_arg (pc := 1706) E dW_1706 dW_1707 dW_1709 dW_1710 dW_1711 rfl rfl (by omega) ?_
  refine zl_arg (pc := 1712) E dW_1712 dW_1713 dW_1715 dW_1716 dW_1717 rfl rfl (by omega) ?_
  refine zl_arg (pc := 1718) E dW_1718 dW_1719 dW_1721 dW_1722 dW_1723 rfl rfl (by omega) ?_
  refine y_aload_n (pc := 1724) hF dW_1724 3 rfl ?_
  refine y_ci (cells' := cells + 4) (slots' := slots + 24) (y_rSL (pc := 1725) (na := 5) hF E.2.1 E.2.2.1 (tL_reach E.2.2.2.1 hn _ _ _ _ _ _ _ _ _ _ _ _ _ _ _ _ _ _ _ _ _ _ _ _ _ _ _ hC hW (zA xs i 1) (zA xs i 2) (zA xs i 3) (zA_r xs i 1) (zA_r xs i 2) (zA_r xs i 3)) dW_1725 w_1167 w_1168 wl_reach w_85 ⟨by decide, by decide, by decide +kernel⟩ rfl ⟨Nat.le_of_ble_eq_true rfl, Nat.le_of_ble_eq_true rfl⟩ ⟨by show cells + 4 ≤ 601024; omega, by show slots + 24 ≤ 7293033; omega⟩ (Nat.le_of_ble_eq_true rfl) rfl (rest := [])) rfl rfl (fun zk n1 σ1 z1 => ?_)
  refine y_istore (pc := 1728) (lv' := zL5 g b i zk) hF dW_1728 (by decide) rfl rfl ?_
  have hn1 := Nat.le_trans hn z1.1
  have zM := mV_cG hM z1.2.1
  refine y_aload_n (pc := 1730) hF dW_1730 2 rfl ?_
  refine zl_arg (pc := 1731) E dW_1731 dW_1732 dW_1734 dW_1735 dW_1736 rfl rfl (by omega) ?_
  refine zl_arg (pc := 1737) E dW_1737 dW_1738 dW_1740 dW_1741 dW_1742 rfl rfl (by omega) ?_
  refine zl_arg (pc := 1743) E dW_1743 dW_1744 dW_1746 dW_1747 dW_1748 rfl rfl (by omega) ?_
  refine y_ci (cells' := cells + 4) (slots' := slots + 24) (y_rV (pc := 1749) (rest := []) hF (tX11_reach hn1 _ _ _ _ _ _ _ _ _ _ _ _ _ _ _ _ _ _ _ _ _ _ _ _ _ _ _ zM hW (zA xs i 1) (zA xs i 2) (zA xs i 3) (zA_r xs i 1) (zA_r xs i 2) (zA_r xs i 3)) dW_1749 (by omega) rfl rfl rfl w_1728 qX11_reach rfl ⟨Nat.le_of_ble_eq_true rfl, Nat.le_of_ble_eq_true rfl⟩ ⟨by show cells + 4 ≤ 601024; omega, by show slots + 24 ≤ 7293033; omega⟩ (Nat.le_of_ble_eq_true rfl) rfl) rfl rfl (fun zb n2 σ2 z2 => ?_)
  refine y_istore (pc := 1752) (lv' := zL6 g b i zk zb) hF dW_1752 (by decide) rfl rfl ?_
  have hn2 := Nat.le_trans hn1 z2.1
  have hn3 := Nat.le_trans z1.1 z2.1
  have zt : ∃ A' : aA, zk = σ2 155 0 ∧ (0 ≤ zk ∧ zk ≤ 2) ∧ (zk = 0 → σ2 171 0 = wr zb) ∧ zG (N + 400) σ2 A' := by
    obtain ⟨_, zg, z1⟩ := z1
    obtain ⟨_, z2⟩ := z2
    rcases z1 with ⟨q, rfl, q2, q3⟩ | ⟨q, rfl, q3⟩ | ⟨q, q0, rfl, q3⟩
    · rcases z2 with ⟨p, p0, p1, p2⟩ | ⟨p, p2⟩ | ⟨p, p0, p2⟩
      · exact ⟨_, p2.2.1.symm, (by decide), (fun _ => by rw [p2.1 171 (Or.inr rfl), q2, p1]), cV_mF q3 p2.1, p2.2.2, aW_up hW (by omega)⟩
      · exact absurd q.1 p
      · exact absurd q.2 p0
    · rcases z2 with ⟨p, p0, p1, p2⟩ | ⟨p, p2⟩ | ⟨p, p0, p2⟩
      · exact absurd p q
      · exact ⟨_, p2.2.1.symm, (by decide), (fun z => absurd z (by decide)), cV_mF q3 p2.1, p2.2.2, aW_up (aW_bN hW) (by omega)⟩
      · exact absurd p q
    · rcases z2 with ⟨p, p0, p1, p2⟩ | ⟨p, p2⟩ | ⟨p, p0, p2⟩
      · exact absurd p0 q0
      · exact absurd q p
      · exact ⟨_, p2.2.1.symm, (by decide), (fun z => absurd z (by decide)), cV_mF q3 p2.1, p2.2.2, aW_up (aW_bA hW) (by omega)⟩
  obtain ⟨A', t1, t2, t3, t4⟩ := zt
  exact zl_tail (pc := 1754) E dW_1754 dW_1755 dW_1758 dW_1760 dW_1765 dW_1767 dW_1770 dW_1771 dW_1772 dW_1773 dW_1775 dW_1776 dW_1777 dW_1782 rfl t1 t2 t3 hn2 (by omega) (by omega) (y_wid (by omega) (by omega) (k n2 σ2 A' hn3 t4))
set_option maxHeartbeats 4000000 in
set_option maxRecDepth 100000 in
theorem zc_seams (E : zE x l g b L xs) {N : Int} {A : aA} (G : zG N σ A) (hN0 : 0 ≤ N) (hN : N ≤ 400000000) (hn : 172 ≤ n) {i : Int} (hi : 0 ≤ i ∧ i + 6 ≤ (L : Int)) (hc : cells + 408 ≤ 601024) (hs : slots + 3660 ≤ 7293033) (k : zK x g b Q n N cells slots i) : yV x g 7 Q (SC g) n σ cells slots 1785 (zL g b i) [] := by
  obtain ⟨w, h, ⟨T, S, F, P, O, nf, df, nl, lg⟩, ⟨s, re, fo, ra, tu, we, sh⟩, H, ht, K, tl, tb, fa, r1, r2⟩ := A
  obtain ⟨hC, hM, hW⟩ := G
  have hF := E.1
  have ZN := hN0
  refine y_aload_n (pc := 1785) hF dW_1785 1 rfl ?_
  refine zl_arg (pc := 1786) E dW_1786 dW_1787 dW_1789 dW_1790 dW_1791 rfl rfl (by omega) ?_
  refine y_aload_n (pc := 1792) hF dW_1792 3 rfl ?_
  refine y_ci (cells' := cells + 4) (slots' := slots + 24) (y_rSL (pc := 1793) (na := 3) hF E.2.1 E.2.2.1 (tL_seams E.2.2.2.1 hn _ _ _ _ _ _ _ _ _ _ _ _ _ _ _ _ _ _ _ _ _ _ _ _ _ _ _ hC hW (zA xs i 1) (zA_r xs i 1)) dW_1793 w_1184 w_1185 wl_seams w_85 ⟨by decide, by decide, by decide +kernel⟩ rfl ⟨Nat.le_of_ble_eq_true rfl, Nat.le_of_ble_eq_true rfl⟩ ⟨by show cells + 4 ≤ 601024; omega, by show slots + 24 ≤ 7293033; omega⟩ (Nat.le_of_ble_eq_true rfl) rfl (rest := [])) rfl rfl (fun zk n1 σ1 z1 => ?_)
  refine y_istore (pc := 1796) (lv' := zL5 g b i zk) hF dW_1796 (by decide) rfl rfl ?_
  have hn1 := Nat.le_trans hn z1.1
  have zM := mV_cG hM z1.2.1
  refine y_aload_n (pc := 1798) hF dW_1798 2 rfl ?_
  refine zl_arg (pc := 1799) E dW_1799 dW_1800 dW_1802 dW_1803 dW_1804 rfl rfl (by omega) ?_
  refine y_ci (cells' := cells + 4) (slots' := slots + 24) (y_rV (pc := 1805) (rest := []) hF (tX11_seams hn1 _ _ _ _ _ _ _ _ _ _ _ _ _ _ _ _ _ _ _ _ _ _ _ _ _ _ _ zM hW (zA xs i 1) (zA_r xs i 1)) dW_1805 (by omega) rfl rfl rfl w_1732 qX11_seams rfl ⟨Nat.le_of_ble_eq_true rfl, Nat.le_of_ble_eq_true rfl⟩ ⟨by show cells + 4 ≤ 601024; omega, by show slots + 24 ≤ 7293033; omega⟩ (Nat.le_of_ble_eq_true rfl) rfl) rfl rfl (fun zb n2 σ2 z2 => ?_)
  refine y_istore (pc := 1808) (lv' := zL6 g b i zk zb) hF dW_1808 (by decide) rfl rfl ?_
  have hn2 := Nat.le_trans hn1 z2.1
  have hn3 := Nat.le_trans z1.1 z2.1
  have zt : ∃ A' : aA, zk = σ2 155 0 ∧ (0 ≤ zk ∧ zk ≤ 2) ∧ (zk = 0 → σ2 171 0 = wr zb) ∧ zG (N + 400) σ2 A' := by
    obtain ⟨_, zg, z1⟩ := z1
    obtain ⟨_, z2⟩ := z2
    rcases z1 with ⟨q, rfl, q2, q3⟩ | ⟨q, rfl, q3⟩
    · rcases z2 with ⟨p, p1, p2⟩ | ⟨p, p2⟩
      · exact ⟨_, p2.2.1.symm, (by decide), (fun _ => by rw [p2.1 171 (Or.inr rfl), q2, p1]), cV_mF q3 p2.1, p2.2.2, aW_up hW (by omega)⟩
      · exact absurd q p
    · rcases z2 with ⟨p, p1, p2⟩ | ⟨p, p2⟩
      · exact absurd p q
      · exact ⟨_, p2.2.1.symm, (by decide), (fun z => absurd z (by decide)), cV_mF q3 p2.1, p2.2.2, aW_up (aW_bA hW) (by omega)⟩
  obtain ⟨A', t1, t2, t3, t4⟩ := zt
  exact zl_tail (pc := 1810) E dW_1810 dW_1811 dW_1814 dW_1816 dW_1821 dW_1823 dW_1826 dW_1827 dW_1828 dW_1829 dW_1831 dW_1832 dW_1833 dW_1838 rfl t1 t2 t3 hn2 (by omega) (by omega) (y_wid (by omega) (by omega) (k n2 σ2 A' hn3 t4))
set_option maxHeartbeats 4000000 in
set_option maxRecDepth 100000 in
theorem zc_favourite (E : zE x l g b L xs) {N : Int} {A : aA} (G : zG N σ A) (hN0 : 0 ≤ N) (hN : N ≤ 400000000) (hn : 172 ≤ n) {i : Int} (hi : 0 ≤ i ∧ i + 6 ≤ (L : Int)) (hc : cells + 408 ≤ 601024) (hs : slots + 3660 ≤ 7293033) (k : zK x g b Q n N cells slots i) : yV x g 7 Q (SC g) n σ cells slots 1841 (zL g b i) [] := by
  obtain ⟨w, h, ⟨T, S, F, P, O, nf, df, nl, lg⟩, ⟨s, re, fo, ra, tu, we, sh⟩, H, ht, K, tl, tb, fa, r1, r2⟩ := A
  obtain ⟨hC, hM, hW⟩ := G
  have hF := E.1
  have ZN := hN0
  refine y_aload_n (pc := 1841) hF dW_1841 1 rfl ?_
  refine zl_arg (pc := 1842) E dW_1842 dW_1843 dW_1845 dW_1846 dW_1847 rfl rfl (by omega) ?_
  refine y_aload_n (pc := 1848) hF dW_1848 3 rfl ?_
  refine y_ci (cells' := cells + 4) (slots' := slots + 24) (y_rSL (pc := 1849) (na := 3) hF E.2.1 E.2.2.1 (tL_favourite E.2.2.2.1 hn _ _ _ _ _ _ _ _ _ _ _ _ _ _ _ _ _ _ _ _ _ _ _ _ _ _ _ hC hW (zA xs i 1) (zA_r xs i 1)) dW_1849 w_1198 w_1199 wl_favourite w_85 ⟨by decide, by decide, by decide +kernel⟩ rfl ⟨Nat.le_of_ble_eq_true rfl, Nat.le_of_ble_eq_true rfl⟩ ⟨by show cells + 4 ≤ 601024; omega, by show slots + 24 ≤ 7293033; omega⟩ (Nat.le_of_ble_eq_true rfl) rfl (rest := [])) rfl rfl (fun zk n1 σ1 z1 => ?_)
  refine y_istore (pc := 1852) (lv' := zL5 g b i zk) hF dW_1852 (by decide) rfl rfl ?_
  have hn1 := Nat.le_trans hn z1.1
  have zM := mV_cG hM z1.2.1
  refine y_aload_n (pc := 1854) hF dW_1854 2 rfl ?_
  refine zl_arg (pc := 1855) E dW_1855 dW_1856 dW_1858 dW_1859 dW_1860 rfl rfl (by omega) ?_
  refine y_ci (cells' := cells + 4) (slots' := slots + 24) (y_rV (pc := 1861) (rest := []) hF (tX11_favourite hn1 _ _ _ _ _ _ _ _ _ _ _ _ _ _ _ _ _ _ _ _ _ _ _ _ _ _ _ zM hW (zA xs i 1) (zA_r xs i 1)) dW_1861 (by omega) rfl rfl rfl w_1740 qX11_favourite rfl ⟨Nat.le_of_ble_eq_true rfl, Nat.le_of_ble_eq_true rfl⟩ ⟨by show cells + 4 ≤ 601024; omega, by show slots + 24 ≤ 7293033; omega⟩ (Nat.le_of_ble_eq_true rfl) rfl) rfl rfl (fun zb n2 σ2 z2 => ?_)
  refine y_istore (pc := 1864) (lv' := zL6 g b i zk zb) hF dW_1864 (by decide) rfl rfl ?_
  have hn2 := Nat.le_trans hn1 z2.1
  have hn3 := Nat.le_trans z1.1 z2.1
  have zt : ∃ A' : aA, zk = σ2 155 0 ∧ (0 ≤ zk ∧ zk ≤ 2) ∧ (zk = 0 → σ2 171 0 = wr zb) ∧ zG (N + 400) σ2 A' := by
    obtain ⟨_, zg, z1⟩ := z1
    obtain ⟨_, z2⟩ := z2
    rcases z1 with ⟨q, rfl, q2, q3⟩ | ⟨q, rfl, q3⟩
    · rcases z2 with ⟨p, p1, p2⟩ | ⟨p, p2⟩
      · exact ⟨_, p2.2.1.symm, (by decide), (fun _ => by rw [p2.1 171 (Or.inr rfl), q2, p1]), cV_mF q3 p2.1, p2.2.2, aW_up hW (by omega)⟩
      · exact absurd q p
    · rcases z2 with ⟨p, p1, p2⟩ | ⟨p, p2⟩
      · exact absurd p q
      · exact ⟨_, p2.2.1.symm, (by decide), (fun z => absurd z (by decide)), cV_mF q3 p2.1, p2.2.2, aW_up (aW_bA hW) (by omega)⟩
  obtain ⟨A', t1, t2, t3, t4⟩ := zt
  exact zl_tail (pc := 1866) E dW_1866 dW_1867 dW_1870 dW_1872 dW_1877 dW_1879 dW_1882 dW_1883 dW_1884 dW_1885 dW_1887 dW_1888 dW_1889 dW_1894 rfl t1 t2 t3 hn2 (by omega) (by omega) (y_wid (by omega) (by omega) (k n2 σ2 A' hn3 t4))
end YLA
