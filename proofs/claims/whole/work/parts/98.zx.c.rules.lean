theorem lc_36 {X : jX} {nm : String} {ret : Option FieldType} {R : Room} {QF : jQF} {cells slots : Nat} {M : jM} {i : Int} (hF : 68 ≤ R.frames) (hL : 7000 ≤ R.locals) (hC : cells ≤ R.cells) (hS : slots ≤ R.slots) (h2 : (X.2.2.2.2.1 : Int) < 100000) (h0 : 0 ≤ i) (h1 : i + 7 ≤ (X.2.2.2.2.1 : Int)) (hI : Inv M) (kk : ∀ M2 : jM, Inv M2 → gE X (yl nm) cL_law 4 ret R QF cells slots 949 topo M2 2160 (lwl i) []) : gE X (yl nm) cL_law 4 ret R QF cells slots 949 topo M 1583 (lwl i) [] := by
  refine e_aload_n (i := 1) 1584 dL_law_1583 rfl rfl rfl ?_
  refine e_aloadF_n (i := 0) 1585 dL_law_1584 rfl rfl rfl ?_
  refine e_iload_n (i := 3) 1586 dL_law_1585 rfl rfl rfl ?_
  refine e_iconst 1587 dL_law_1586 rfl ?_
  refine e_iadd 1588 dL_law_1587 rfl ?_
  refine e_sald 1589 dL_law_1588 (by omega) (by omega) h2 rfl ?_
  refine e_callP 1592 mt_yX11_duty mv_yX11_duty wd_1113 (Nat.le_of_ble_eq_true rfl) dL_law_1589 at_0 jc_11 rfl rfl rfl (Nat.le_of_ble_eq_true rfl) ⟨by omega, by omega, by omega, by omega⟩ rfl (p_duty hI (i32_bnd _)) (fun z M1 hc => ?_)
  refine e_aload_n (i := 2) 1593 dL_law_1592 rfl rfl rfl ?_
  refine e_aloadF_n (i := 0) 1594 dL_law_1593 rfl rfl rfl ?_
  refine e_iload_n (i := 3) 1595 dL_law_1594 rfl rfl rfl ?_
  refine e_iconst 1596 dL_law_1595 rfl ?_
  refine e_iadd 1597 dL_law_1596 rfl ?_
  refine e_sald 1598 dL_law_1597 (by omega) (by omega) h2 rfl ?_
  refine e_callP 1601 mt_yX12_duty mv_yX12_duty wd_1736 (Nat.le_of_ble_eq_true rfl) dL_law_1598 at_928 jc_12 rfl rfl rfl (Nat.le_of_ble_eq_true rfl) ⟨by omega, by omega, by omega, by omega⟩ rfl hc (fun z2 M2 hc2 => ?_)
  obtain ⟨rfl, hI2⟩ := hc2
  refine e_w32 ?_
  refine e_w32b ?_
  exact e_icmp_eq 1604 2160 dL_law_1601 (w32_bnd _) (w32_bnd _) (by decide) rfl (fun _ => kk M2 hI2) (fun g => absurd rfl g)
theorem lc_37 {X : jX} {nm : String} {ret : Option FieldType} {R : Room} {QF : jQF} {cells slots : Nat} {M : jM} {i : Int} (hF : 68 ≤ R.frames) (hL : 7000 ≤ R.locals) (hC : cells ≤ R.cells) (hS : slots ≤ R.slots) (h2 : (X.2.2.2.2.1 : Int) < 100000) (h0 : 0 ≤ i) (h1 : i + 7 ≤ (X.2.2.2.2.1 : Int)) (hI : Inv M) (kk : ∀ M2 : jM, Inv M2 → gE X (yl nm) cL_law 4 ret R QF cells slots 949 topo M2 2160 (lwl i) []) : gE X (yl nm) cL_law 4 ret R QF cells slots 949 topo M 1606 (lwl i) [] := by
  refine e_aload_n (i := 1) 1607 dL_law_1606 rfl rfl rfl ?_
  refine e_aloadF_n (i := 0) 1608 dL_law_1607 rfl rfl rfl ?_
  refine e_iload_n (i := 3) 1609 dL_law_1608 rfl rfl rfl ?_
  refine e_iconst 1610 dL_law_1609 rfl ?_
  refine e_iadd 1611 dL_law_1610 rfl ?_
  refine e_sald 1612 dL_law_1611 (by omega) (by omega) h2 rfl ?_
  refine e_aloadF_n (i := 0) 1613 dL_law_1612 rfl rfl rfl ?_
  refine e_iload_n (i := 3) 1614 dL_law_1613 rfl rfl rfl ?_
  refine e_iconst 1615 dL_law_1614 rfl ?_
  refine e_iadd 1616 dL_law_1615 rfl ?_
  refine e_sald 1617 dL_law_1616 (by omega) (by omega) h2 rfl ?_
  refine e_aloadF_n (i := 0) 1618 dL_law_1617 rfl rfl rfl ?_
  refine e_iload_n (i := 3) 1619 dL_law_1618 rfl rfl rfl ?_
  refine e_iconst 1620 dL_law_1619 rfl ?_
  refine e_iadd 1621 dL_law_1620 rfl ?_
  refine e_sald 1622 dL_law_1621 (by omega) (by omega) h2 rfl ?_
  refine e_aloadF_n (i := 0) 1623 dL_law_1622 rfl rfl rfl ?_
  refine e_iload_n (i := 3) 1624 dL_law_1623 rfl rfl rfl ?_
  refine e_iconst 1625 dL_law_1624 rfl ?_
  refine e_iadd 1626 dL_law_1625 rfl ?_
  refine e_sald 1627 dL_law_1626 (by omega) (by omega) h2 rfl ?_
  refine e_aloadF_n (i := 0) 1628 dL_law_1627 rfl rfl rfl ?_
  refine e_iload_n (i := 3) 1629 dL_law_1628 rfl rfl rfl ?_
  refine e_iconst 1630 dL_law_1629 rfl ?_
  refine e_iadd 1631 dL_law_1630 rfl ?_
  refine e_sald 1632 dL_law_1631 (by omega) (by omega) h2 rfl ?_
  refine e_aloadF_n (i := 0) 1633 dL_law_1632 rfl rfl rfl ?_
  refine e_iload_n (i := 3) 1634 dL_law_1633 rfl rfl rfl ?_
  refine e_bipush 1636 dL_law_1634 (by decide) rfl ?_
  refine e_iadd 1637 dL_law_1636 rfl ?_
  refine e_sald 1638 dL_law_1637 (by omega) (by omega) h2 rfl ?_
  refine e_callP 1641 mt_yX11_hand mv_yX11_hand wd_1117 (Nat.le_of_ble_eq_true rfl) dL_law_1638 at_0 jc_11 rfl rfl rfl (Nat.le_of_ble_eq_true rfl) ⟨by omega, by omega, by omega, by omega⟩ rfl (p_hand hI (i32_bnd _) (i32_bnd _) (i32_bnd _) (i32_bnd _) (i32_bnd _) (i32_bnd _)) (fun z M1 hc => ?_)
  refine e_aload_n (i := 2) 1642 dL_law_1641 rfl rfl rfl ?_
  refine e_aloadF_n (i := 0) 1643 dL_law_1642 rfl rfl rfl ?_
  refine e_iload_n (i := 3) 1644 dL_law_1643 rfl rfl rfl ?_
  refine e_iconst 1645 dL_law_1644 rfl ?_
  refine e_iadd 1646 dL_law_1645 rfl ?_
  refine e_sald 1647 dL_law_1646 (by omega) (by omega) h2 rfl ?_
  refine e_aloadF_n (i := 0) 1648 dL_law_1647 rfl rfl rfl ?_
  refine e_iload_n (i := 3) 1649 dL_law_1648 rfl rfl rfl ?_
  refine e_iconst 1650 dL_law_1649 rfl ?_
  refine e_iadd 1651 dL_law_1650 rfl ?_
  refine e_sald 1652 dL_law_1651 (by omega) (by omega) h2 rfl ?_
  refine e_aloadF_n (i := 0) 1653 dL_law_1652 rfl rfl rfl ?_
  refine e_iload_n (i := 3) 1654 dL_law_1653 rfl rfl rfl ?_
  refine e_iconst 1655 dL_law_1654 rfl ?_
  refine e_iadd 1656 dL_law_1655 rfl ?_
  refine e_sald 1657 dL_law_1656 (by omega) (by omega) h2 rfl ?_
  refine e_aloadF_n (i := 0) 1658 dL_law_1657 rfl rfl rfl ?_
  refine e_iload_n (i := 3) 1659 dL_law_1658 rfl rfl rfl ?_
  refine e_iconst 1660 dL_law_1659 rfl ?_
  refine e_iadd 1661 dL_law_1660 rfl ?_
  refine e_sald 1662 dL_law_1661 (by omega) (by omega) h2 rfl ?_
  refine e_aloadF_n (i := 0) 1663 dL_law_1662 rfl rfl rfl ?_
  refine e_iload_n (i := 3) 1664 dL_law_1663 rfl rfl rfl ?_
  refine e_iconst 1665 dL_law_1664 rfl ?_
  refine e_iadd 1666 dL_law_1665 rfl ?_
  refine e_sald 1667 dL_law_1666 (by omega) (by omega) h2 rfl ?_
  refine e_aloadF_n (i := 0) 1668 dL_law_1667 rfl rfl rfl ?_
  refine e_iload_n (i := 3) 1669 dL_law_1668 rfl rfl rfl ?_
  refine e_bipush 1671 dL_law_1669 (by decide) rfl ?_
  refine e_iadd 1672 dL_law_1671 rfl ?_
  refine e_sald 1673 dL_law_1672 (by omega) (by omega) h2 rfl ?_
  refine e_callP 1676 mt_yX12_hand mv_yX12_hand wd_1740 (Nat.le_of_ble_eq_true rfl) dL_law_1673 at_928 jc_12 rfl rfl rfl (Nat.le_of_ble_eq_true rfl) ⟨by omega, by omega, by omega, by omega⟩ rfl hc (fun z2 M2 hc2 => ?_)
  obtain ⟨rfl, hI2⟩ := hc2
  refine e_w32 ?_
  refine e_w32b ?_
  exact e_icmp_eq 1679 2160 dL_law_1676 (w32_bnd _) (w32_bnd _) (by decide) rfl (fun _ => kk M2 hI2) (fun g => absurd rfl g)
theorem lc_38 {X : jX} {nm : String} {ret : Option FieldType} {R : Room} {QF : jQF} {cells slots : Nat} {M : jM} {i : Int} (hF : 68 ≤ R.frames) (hL : 7000 ≤ R.locals) (hC : cells ≤ R.cells) (hS : slots ≤ R.slots) (h2 : (X.2.2.2.2.1 : Int) < 100000) (h0 : 0 ≤ i) (h1 : i + 7 ≤ (X.2.2.2.2.1 : Int)) (hI : Inv M) (kk : ∀ M2 : jM, Inv M2 → gE X (yl nm) cL_law 4 ret R QF cells slots 949 topo M2 2160 (lwl i) []) : gE X (yl nm) cL_law 4 ret R QF cells slots 949 topo M 1681 (lwl i) [] := by
  refine e_aload_n (i := 1) 1682 dL_law_1681 rfl rfl rfl ?_
  refine e_aloadF_n (i := 0) 1683 dL_law_1682 rfl rfl rfl ?_
  refine e_iload_n (i := 3) 1684 dL_law_1683 rfl rfl rfl ?_
  refine e_iconst 1685 dL_law_1684 rfl ?_
  refine e_iadd 1686 dL_law_1685 rfl ?_
  refine e_sald 1687 dL_law_1686 (by omega) (by omega) h2 rfl ?_
  refine e_aloadF_n (i := 0) 1688 dL_law_1687 rfl rfl rfl ?_
  refine e_iload_n (i := 3) 1689 dL_law_1688 rfl rfl rfl ?_
  refine e_iconst 1690 dL_law_1689 rfl ?_
  refine e_iadd 1691 dL_law_1690 rfl ?_
  refine e_sald 1692 dL_law_1691 (by omega) (by omega) h2 rfl ?_
  refine e_aloadF_n (i := 0) 1693 dL_law_1692 rfl rfl rfl ?_
  refine e_iload_n (i := 3) 1694 dL_law_1693 rfl rfl rfl ?_
  refine e_iconst 1695 dL_law_1694 rfl ?_
  refine e_iadd 1696 dL_law_1695 rfl ?_
  refine e_sald 1697 dL_law_1696 (by omega) (by omega) h2 rfl ?_
  refine e_callP 1700 mt_yX11_suit mv_yX11_suit wd_1132 (Nat.le_of_ble_eq_true rfl) dL_law_1697 at_0 jc_11 rfl rfl rfl (Nat.le_of_ble_eq_true rfl) ⟨by omega, by omega, by omega, by omega⟩ rfl (p_suit hI (i32_bnd _) (i32_bnd _) (i32_bnd _)) (fun z M1 hc => ?_)
  refine e_aload_n (i := 2) 1701 dL_law_1700 rfl rfl rfl ?_
  refine e_aloadF_n (i := 0) 1702 dL_law_1701 rfl rfl rfl ?_
  refine e_iload_n (i := 3) 1703 dL_law_1702 rfl rfl rfl ?_
  refine e_iconst 1704 dL_law_1703 rfl ?_
  refine e_iadd 1705 dL_law_1704 rfl ?_
  refine e_sald 1706 dL_law_1705 (by omega) (by omega) h2 rfl ?_
  refine e_aloadF_n (i := 0) 1707 dL_law_1706 rfl rfl rfl ?_
  refine e_iload_n (i := 3) 1708 dL_law_1707 rfl rfl rfl ?_
  refine e_iconst 1709 dL_law_1708 rfl ?_
  refine e_iadd 1710 dL_law_1709 rfl ?_
  refine e_sald 1711 dL_law_1710 (by omega) (by omega) h2 rfl ?_
  refine e_aloadF_n (i := 0) 1712 dL_law_1711 rfl rfl rfl ?_
  refine e_iload_n (i := 3) 1713 dL_law_1712 rfl rfl rfl ?_
  refine e_iconst 1714 dL_law_1713 rfl ?_
  refine e_iadd 1715 dL_law_1714 rfl ?_
  refine e_sald 1716 dL_law_1715 (by omega) (by omega) h2 rfl ?_
  refine e_callP 1719 mt_yX12_suit mv_yX12_suit wd_1747 (Nat.le_of_ble_eq_true rfl) dL_law_1716 at_928 jc_12 rfl rfl rfl (Nat.le_of_ble_eq_true rfl) ⟨by omega, by omega, by omega, by omega⟩ rfl hc (fun z2 M2 hc2 => ?_)
  obtain ⟨rfl, hI2⟩ := hc2
  refine e_w32 ?_
  refine e_w32b ?_
  exact e_icmp_eq 1722 2160 dL_law_1719 (w32_bnd _) (w32_bnd _) (by decide) rfl (fun _ => kk M2 hI2) (fun g => absurd rfl g)
theorem lc_39 {X : jX} {nm : String} {ret : Option FieldType} {R : Room} {QF : jQF} {cells slots : Nat} {M : jM} {i : Int} (hF : 68 ≤ R.frames) (hL : 7000 ≤ R.locals) (hC : cells ≤ R.cells) (hS : slots ≤ R.slots) (h2 : (X.2.2.2.2.1 : Int) < 100000) (h0 : 0 ≤ i) (h1 : i + 7 ≤ (X.2.2.2.2.1 : Int)) (hI : Inv M) (kk : ∀ M2 : jM, Inv M2 → gE X (yl nm) cL_law 4 ret R QF cells slots 949 topo M2 2160 (lwl i) []) : gE X (yl nm) cL_law 4 ret R QF cells slots 949 topo M 1724 (lwl i) [] := by
  refine e_aload_n (i := 1) 1725 dL_law_1724 rfl rfl rfl ?_
  refine e_aloadF_n (i := 0) 1726 dL_law_1725 rfl rfl rfl ?_
  refine e_iload_n (i := 3) 1727 dL_law_1726 rfl rfl rfl ?_
  refine e_iconst 1728 dL_law_1727 rfl ?_
  refine e_iadd 1729 dL_law_1728 rfl ?_
  refine e_sald 1730 dL_law_1729 (by omega) (by omega) h2 rfl ?_
  refine e_aloadF_n (i := 0) 1731 dL_law_1730 rfl rfl rfl ?_
  refine e_iload_n (i := 3) 1732 dL_law_1731 rfl rfl rfl ?_
  refine e_iconst 1733 dL_law_1732 rfl ?_
  refine e_iadd 1734 dL_law_1733 rfl ?_
  refine e_sald 1735 dL_law_1734 (by omega) (by omega) h2 rfl ?_
  refine e_callP 1738 mt_yX11_street mv_yX11_street wd_1136 (Nat.le_of_ble_eq_true rfl) dL_law_1735 at_0 jc_11 rfl rfl rfl (Nat.le_of_ble_eq_true rfl) ⟨by omega, by omega, by omega, by omega⟩ rfl (p_street hI (i32_bnd _) (i32_bnd _)) (fun z M1 hc => ?_)
  refine e_aload_n (i := 2) 1739 dL_law_1738 rfl rfl rfl ?_
  refine e_aloadF_n (i := 0) 1740 dL_law_1739 rfl rfl rfl ?_
  refine e_iload_n (i := 3) 1741 dL_law_1740 rfl rfl rfl ?_
  refine e_iconst 1742 dL_law_1741 rfl ?_
  refine e_iadd 1743 dL_law_1742 rfl ?_
  refine e_sald 1744 dL_law_1743 (by omega) (by omega) h2 rfl ?_
  refine e_aloadF_n (i := 0) 1745 dL_law_1744 rfl rfl rfl ?_
  refine e_iload_n (i := 3) 1746 dL_law_1745 rfl rfl rfl ?_
  refine e_iconst 1747 dL_law_1746 rfl ?_
  refine e_iadd 1748 dL_law_1747 rfl ?_
  refine e_sald 1749 dL_law_1748 (by omega) (by omega) h2 rfl ?_
  refine e_callP 1752 mt_yX12_street mv_yX12_street wd_1751 (Nat.le_of_ble_eq_true rfl) dL_law_1749 at_928 jc_12 rfl rfl rfl (Nat.le_of_ble_eq_true rfl) ⟨by omega, by omega, by omega, by omega⟩ rfl hc (fun z2 M2 hc2 => ?_)
  obtain ⟨rfl, hI2⟩ := hc2
  refine e_w32 ?_
  refine e_w32b ?_
  exact e_icmp_eq 1755 2160 dL_law_1752 (w32_bnd _) (w32_bnd _) (by decide) rfl (fun _ => kk M2 hI2) (fun g => absurd rfl g)
theorem lc_40 {X : jX} {nm : String} {ret : Option FieldType} {R : Room} {QF : jQF} {cells slots : Nat} {M : jM} {i : Int} (hF : 68 ≤ R.frames) (hL : 7000 ≤ R.locals) (hC : cells ≤ R.cells) (hS : slots ≤ R.slots) (h2 : (X.2.2.2.2.1 : Int) < 100000) (h0 : 0 ≤ i) (h1 : i + 7 ≤ (X.2.2.2.2.1 : Int)) (hI : Inv M) (kk : ∀ M2 : jM, Inv M2 → gE X (yl nm) cL_law 4 ret R QF cells slots 949 topo M2 2160 (lwl i) []) : gE X (yl nm) cL_law 4 ret R QF cells slots 949 topo M 1757 (lwl i) [] := by
  refine e_aload_n (i := 1) 1758 dL_law_1757 rfl rfl rfl ?_
  refine e_aloadF_n (i := 0) 1759 dL_law_1758 rfl rfl rfl ?_
  refine e_iload_n (i := 3) 1760 dL_law_1759 rfl rfl rfl ?_
  refine e_iconst 1761 dL_law_1760 rfl ?_
  refine e_iadd 1762 dL_law_1761 rfl ?_
  refine e_sald 1763 dL_law_1762 (by omega) (by omega) h2 rfl ?_
  refine e_callP 1766 mt_yX11_shilling mv_yX11_shilling wd_1145 (Nat.le_of_ble_eq_true rfl) dL_law_1763 at_0 jc_11 rfl rfl rfl (Nat.le_of_ble_eq_true rfl) ⟨by omega, by omega, by omega, by omega⟩ rfl (p_shilling hI (i32_bnd _)) (fun z M1 hc => ?_)
  refine e_aload_n (i := 2) 1767 dL_law_1766 rfl rfl rfl ?_
  refine e_aloadF_n (i := 0) 1768 dL_law_1767 rfl rfl rfl ?_
  refine e_iload_n (i := 3) 1769 dL_law_1768 rfl rfl rfl ?_
  refine e_iconst 1770 dL_law_1769 rfl ?_
  refine e_iadd 1771 dL_law_1770 rfl ?_
  refine e_sald 1772 dL_law_1771 (by omega) (by omega) h2 rfl ?_
  refine e_callP 1775 mt_yX12_shilling mv_yX12_shilling wd_1759 (Nat.le_of_ble_eq_true rfl) dL_law_1772 at_928 jc_12 rfl rfl rfl (Nat.le_of_ble_eq_true rfl) ⟨by omega, by omega, by omega, by omega⟩ rfl hc (fun z2 M2 hc2 => ?_)
  obtain ⟨rfl, hI2⟩ := hc2
  refine e_w32 ?_
  refine e_w32b ?_
  exact e_icmp_eq 1778 2160 dL_law_1775 (w32_bnd _) (w32_bnd _) (by decide) rfl (fun _ => kk M2 hI2) (fun g => absurd rfl g)
theorem lc_41 {X : jX} {nm : String} {ret : Option FieldType} {R : Room} {QF : jQF} {cells slots : Nat} {M : jM} {i : Int} (hF : 68 ≤ R.frames) (hL : 7000 ≤ R.locals) (hC : cells ≤ R.cells) (hS : slots ≤ R.slots) (h2 : (X.2.2.2.2.1 : Int) < 100000) (h0 : 0 ≤ i) (h1 : i + 7 ≤ (X.2.2.2.2.1 : Int)) (hI : Inv M) (kk : ∀ M2 : jM, Inv M2 → gE X (yl nm) cL_law 4 ret R QF cells slots 949 topo M2 2160 (lwl i) []) : gE X (yl nm) cL_law 4 ret R QF cells slots 949 topo M 1780 (lwl i) [] := by
  refine e_aload_n (i := 1) 1781 dL_law_1780 rfl rfl rfl ?_
  refine e_aloadF_n (i := 0) 1782 dL_law_1781 rfl rfl rfl ?_
  refine e_iload_n (i := 3) 1783 dL_law_1782 rfl rfl rfl ?_
  refine e_iconst 1784 dL_law_1783 rfl ?_
  refine e_iadd 1785 dL_law_1784 rfl ?_
  refine e_sald 1786 dL_law_1785 (by omega) (by omega) h2 rfl ?_
  refine e_aloadF_n (i := 0) 1787 dL_law_1786 rfl rfl rfl ?_
  refine e_iload_n (i := 3) 1788 dL_law_1787 rfl rfl rfl ?_
  refine e_iconst 1789 dL_law_1788 rfl ?_
  refine e_iadd 1790 dL_law_1789 rfl ?_
  refine e_sald 1791 dL_law_1790 (by omega) (by omega) h2 rfl ?_
  refine e_aloadF_n (i := 0) 1792 dL_law_1791 rfl rfl rfl ?_
  refine e_iload_n (i := 3) 1793 dL_law_1792 rfl rfl rfl ?_
  refine e_iconst 1794 dL_law_1793 rfl ?_
  refine e_iadd 1795 dL_law_1794 rfl ?_
  refine e_sald 1796 dL_law_1795 (by omega) (by omega) h2 rfl ?_
  refine e_callP 1799 mt_yX11_trips mv_yX11_trips wd_1149 (Nat.le_of_ble_eq_true rfl) dL_law_1796 at_0 jc_11 rfl rfl rfl (Nat.le_of_ble_eq_true rfl) ⟨by omega, by omega, by omega, by omega⟩ rfl (p_trips hI (i32_bnd _) (i32_bnd _) (i32_bnd _)) (fun z M1 hc => ?_)
  refine e_aload_n (i := 2) 1800 dL_law_1799 rfl rfl rfl ?_
  refine e_aloadF_n (i := 0) 1801 dL_law_1800 rfl rfl rfl ?_
  refine e_iload_n (i := 3) 1802 dL_law_1801 rfl rfl rfl ?_
  refine e_iconst 1803 dL_law_1802 rfl ?_
  refine e_iadd 1804 dL_law_1803 rfl ?_
  refine e_sald 1805 dL_law_1804 (by omega) (by omega) h2 rfl ?_
  refine e_aloadF_n (i := 0) 1806 dL_law_1805 rfl rfl rfl ?_
  refine e_iload_n (i := 3) 1807 dL_law_1806 rfl rfl rfl ?_
  refine e_iconst 1808 dL_law_1807 rfl ?_
  refine e_iadd 1809 dL_law_1808 rfl ?_
  refine e_sald 1810 dL_law_1809 (by omega) (by omega) h2 rfl ?_
  refine e_aloadF_n (i := 0) 1811 dL_law_1810 rfl rfl rfl ?_
  refine e_iload_n (i := 3) 1812 dL_law_1811 rfl rfl rfl ?_
  refine e_iconst 1813 dL_law_1812 rfl ?_
  refine e_iadd 1814 dL_law_1813 rfl ?_
  refine e_sald 1815 dL_law_1814 (by omega) (by omega) h2 rfl ?_
  refine e_callP 1818 mt_yX12_trips mv_yX12_trips wd_1763 (Nat.le_of_ble_eq_true rfl) dL_law_1815 at_928 jc_12 rfl rfl rfl (Nat.le_of_ble_eq_true rfl) ⟨by omega, by omega, by omega, by omega⟩ rfl hc (fun z2 M2 hc2 => ?_)
  obtain ⟨rfl, hI2⟩ := hc2
  refine e_w32 ?_
  refine e_w32b ?_
  exact e_icmp_eq 1821 2160 dL_law_1818 (w32_bnd _) (w32_bnd _) (by decide) rfl (fun _ => kk M2 hI2) (fun g => absurd rfl g)
theorem lc_42 {X : jX} {nm : String} {ret : Option FieldType} {R : Room} {QF : jQF} {cells slots : Nat} {M : jM} {i : Int} (hF : 68 ≤ R.frames) (hL : 7000 ≤ R.locals) (hC : cells ≤ R.cells) (hS : slots ≤ R.slots) (h2 : (X.2.2.2.2.1 : Int) < 100000) (h0 : 0 ≤ i) (h1 : i + 7 ≤ (X.2.2.2.2.1 : Int)) (hI : Inv M) (kk : ∀ M2 : jM, Inv M2 → gE X (yl nm) cL_law 4 ret R QF cells slots 949 topo M2 2160 (lwl i) []) : gE X (yl nm) cL_law 4 ret R QF cells slots 949 topo M 1823 (lwl i) [] := by
  refine e_aload_n (i := 1) 1824 dL_law_1823 rfl rfl rfl ?_
  refine e_aloadF_n (i := 0) 1825 dL_law_1824 rfl rfl rfl ?_
  refine e_iload_n (i := 3) 1826 dL_law_1825 rfl rfl rfl ?_
  refine e_iconst 1827 dL_law_1826 rfl ?_
  refine e_iadd 1828 dL_law_1827 rfl ?_
  refine e_sald 1829 dL_law_1828 (by omega) (by omega) h2 rfl ?_
  refine e_aloadF_n (i := 0) 1830 dL_law_1829 rfl rfl rfl ?_
  refine e_iload_n (i := 3) 1831 dL_law_1830 rfl rfl rfl ?_
  refine e_iconst 1832 dL_law_1831 rfl ?_
  refine e_iadd 1833 dL_law_1832 rfl ?_
  refine e_sald 1834 dL_law_1833 (by omega) (by omega) h2 rfl ?_
  refine e_callP 1837 mt_yX11_renewals mv_yX11_renewals wd_1157 (Nat.le_of_ble_eq_true rfl) dL_law_1834 at_0 jc_11 rfl rfl rfl (Nat.le_of_ble_eq_true rfl) ⟨by omega, by omega, by omega, by omega⟩ rfl (p_renewals hI (i32_bnd _) (i32_bnd _)) (fun z M1 hc => ?_)
  refine e_aload_n (i := 2) 1838 dL_law_1837 rfl rfl rfl ?_
  refine e_aloadF_n (i := 0) 1839 dL_law_1838 rfl rfl rfl ?_
  refine e_iload_n (i := 3) 1840 dL_law_1839 rfl rfl rfl ?_
  refine e_iconst 1841 dL_law_1840 rfl ?_
  refine e_iadd 1842 dL_law_1841 rfl ?_
  refine e_sald 1843 dL_law_1842 (by omega) (by omega) h2 rfl ?_
  refine e_aloadF_n (i := 0) 1844 dL_law_1843 rfl rfl rfl ?_
  refine e_iload_n (i := 3) 1845 dL_law_1844 rfl rfl rfl ?_
  refine e_iconst 1846 dL_law_1845 rfl ?_
  refine e_iadd 1847 dL_law_1846 rfl ?_
  refine e_sald 1848 dL_law_1847 (by omega) (by omega) h2 rfl ?_
  refine e_callP 1851 mt_yX12_renewals mv_yX12_renewals wd_1771 (Nat.le_of_ble_eq_true rfl) dL_law_1848 at_928 jc_12 rfl rfl rfl (Nat.le_of_ble_eq_true rfl) ⟨by omega, by omega, by omega, by omega⟩ rfl hc (fun z2 M2 hc2 => ?_)
  obtain ⟨rfl, hI2⟩ := hc2
  refine e_w32 ?_
  refine e_w32b ?_
  exact e_icmp_eq 1854 2160 dL_law_1851 (w32_bnd _) (w32_bnd _) (by decide) rfl (fun _ => kk M2 hI2) (fun g => absurd rfl g)
theorem lc_43 {X : jX} {nm : String} {ret : Option FieldType} {R : Room} {QF : jQF} {cells slots : Nat} {M : jM} {i : Int} (hF : 68 ≤ R.frames) (hL : 7000 ≤ R.locals) (hC : cells ≤ R.cells) (hS : slots ≤ R.slots) (h2 : (X.2.2.2.2.1 : Int) < 100000) (h0 : 0 ≤ i) (h1 : i + 7 ≤ (X.2.2.2.2.1 : Int)) (hI : Inv M) (kk : ∀ M2 : jM, Inv M2 → gE X (yl nm) cL_law 4 ret R QF cells slots 949 topo M2 2160 (lwl i) []) : gE X (yl nm) cL_law 4 ret R QF cells slots 949 topo M 1856 (lwl i) [] := by
  refine e_aload_n (i := 1) 1857 dL_law_1856 rfl rfl rfl ?_
  refine e_aloadF_n (i := 0) 1858 dL_law_1857 rfl rfl rfl ?_
  refine e_iload_n (i := 3) 1859 dL_law_1858 rfl rfl rfl ?_
  refine e_iconst 1860 dL_law_1859 rfl ?_
  refine e_iadd 1861 dL_law_1860 rfl ?_
  refine e_sald 1862 dL_law_1861 (by omega) (by omega) h2 rfl ?_
  refine e_if_eq 1865 1869 dL_law_1862 (i32_bnd _) (by decide) rfl (fun g0 => ?_) (fun g0 => ?_)
  · skip
    refine e_iconst 1870 dL_law_1869 rfl ?_
    refine e_callP 1873 mt_yX11_foresee mv_yX11_foresee wd_1161 (Nat.le_of_ble_eq_true rfl) dL_law_1870 at_0 jc_11 rfl rfl rfl (Nat.le_of_ble_eq_true rfl) ⟨by omega, by omega, by omega, by omega⟩ rfl (p_foresee hI (Or.inl rfl)) (fun z M1 hc => ?_)
    refine e_aload_n (i := 2) 1874 dL_law_1873 rfl rfl rfl ?_
    refine e_aloadF_n (i := 0) 1875 dL_law_1874 rfl rfl rfl ?_
    refine e_iload_n (i := 3) 1876 dL_law_1875 rfl rfl rfl ?_
    refine e_iconst 1877 dL_law_1876 rfl ?_
    refine e_iadd 1878 dL_law_1877 rfl ?_
    refine e_sald 1879 dL_law_1878 (by omega) (by omega) h2 rfl ?_
    refine e_if_eq 1882 1886 dL_law_1879 (i32_bnd _) (by decide) rfl (fun _ => ?_) (fun g => absurd g0 g)
    refine e_iconst 1887 dL_law_1886 rfl ?_
    refine e_callP 1890 mt_yX12_foresee mv_yX12_foresee wd_1775 (Nat.le_of_ble_eq_true rfl) dL_law_1887 at_928 jc_12 rfl rfl rfl (Nat.le_of_ble_eq_true rfl) ⟨by omega, by omega, by omega, by omega⟩ rfl hc (fun z2 M2 hc2 => ?_)
    obtain ⟨rfl, hI2⟩ := hc2
    refine e_w32 ?_
    refine e_w32b ?_
    exact e_icmp_eq 1893 2160 dL_law_1890 (w32_bnd _) (w32_bnd _) (by decide) rfl (fun _ => kk M2 hI2) (fun g => absurd rfl g)
  · skip
    refine e_iconst 1866 dL_law_1865 rfl ?_
    refine e_goto 1870 dL_law_1866 (by decide) ?_
    refine e_callP 1873 mt_yX11_foresee mv_yX11_foresee wd_1161 (Nat.le_of_ble_eq_true rfl) dL_law_1870 at_0 jc_11 rfl rfl rfl (Nat.le_of_ble_eq_true rfl) ⟨by omega, by omega, by omega, by omega⟩ rfl (p_foresee hI (Or.inr rfl)) (fun z M1 hc => ?_)
    refine e_aload_n (i := 2) 1874 dL_law_1873 rfl rfl rfl ?_
    refine e_aloadF_n (i := 0) 1875 dL_law_1874 rfl rfl rfl ?_
    refine e_iload_n (i := 3) 1876 dL_law_1875 rfl rfl rfl ?_
    refine e_iconst 1877 dL_law_1876 rfl ?_
    refine e_iadd 1878 dL_law_1877 rfl ?_
    refine e_sald 1879 dL_law_1878 (by omega) (by omega) h2 rfl ?_
    refine e_if_eq 1882 1886 dL_law_1879 (i32_bnd _) (by decide) rfl (fun g => absurd g g0) (fun _ => ?_)
    refine e_iconst 1883 dL_law_1882 rfl ?_
    refine e_goto 1887 dL_law_1883 (by decide) ?_
    refine e_callP 1890 mt_yX12_foresee mv_yX12_foresee wd_1775 (Nat.le_of_ble_eq_true rfl) dL_law_1887 at_928 jc_12 rfl rfl rfl (Nat.le_of_ble_eq_true rfl) ⟨by omega, by omega, by omega, by omega⟩ rfl hc (fun z2 M2 hc2 => ?_)
    obtain ⟨rfl, hI2⟩ := hc2
    refine e_w32 ?_
    refine e_w32b ?_
    exact e_icmp_eq 1893 2160 dL_law_1890 (w32_bnd _) (w32_bnd _) (by decide) rfl (fun _ => kk M2 hI2) (fun g => absurd rfl g)
theorem lc_44 {X : jX} {nm : String} {ret : Option FieldType} {R : Room} {QF : jQF} {cells slots : Nat} {M : jM} {i : Int} (hF : 68 ≤ R.frames) (hL : 7000 ≤ R.locals) (hC : cells ≤ R.cells) (hS : slots ≤ R.slots) (h2 : (X.2.2.2.2.1 : Int) < 100000) (h0 : 0 ≤ i) (h1 : i + 7 ≤ (X.2.2.2.2.1 : Int)) (hI : Inv M) (kk : ∀ M2 : jM, Inv M2 → gE X (yl nm) cL_law 4 ret R QF cells slots 949 topo M2 2160 (lwl i) []) : gE X (yl nm) cL_law 4 ret R QF cells slots 949 topo M 1895 (lwl i) [] := by
  refine e_aload_n (i := 1) 1896 dL_law_1895 rfl rfl rfl ?_
  refine e_aloadF_n (i := 0) 1897 dL_law_1896 rfl rfl rfl ?_
  refine e_iload_n (i := 3) 1898 dL_law_1897 rfl rfl rfl ?_
  refine e_iconst 1899 dL_law_1898 rfl ?_
  refine e_iadd 1900 dL_law_1899 rfl ?_
  refine e_sald 1901 dL_law_1900 (by omega) (by omega) h2 rfl ?_
  refine e_aloadF_n (i := 0) 1902 dL_law_1901 rfl rfl rfl ?_
  refine e_iload_n (i := 3) 1903 dL_law_1902 rfl rfl rfl ?_
  refine e_iconst 1904 dL_law_1903 rfl ?_
  refine e_iadd 1905 dL_law_1904 rfl ?_
  refine e_sald 1906 dL_law_1905 (by omega) (by omega) h2 rfl ?_
  refine e_callP 1909 mt_yX11_list mv_yX11_list wd_1165 (Nat.le_of_ble_eq_true rfl) dL_law_1906 at_0 jc_11 rfl rfl rfl (Nat.le_of_ble_eq_true rfl) ⟨by omega, by omega, by omega, by omega⟩ rfl (p_list hI (i32_bnd _) (i32_bnd _)) (fun z M1 hc => ?_)
  refine e_aload_n (i := 2) 1910 dL_law_1909 rfl rfl rfl ?_
  refine e_aloadF_n (i := 0) 1911 dL_law_1910 rfl rfl rfl ?_
  refine e_iload_n (i := 3) 1912 dL_law_1911 rfl rfl rfl ?_
  refine e_iconst 1913 dL_law_1912 rfl ?_
  refine e_iadd 1914 dL_law_1913 rfl ?_
  refine e_sald 1915 dL_law_1914 (by omega) (by omega) h2 rfl ?_
  refine e_aloadF_n (i := 0) 1916 dL_law_1915 rfl rfl rfl ?_
  refine e_iload_n (i := 3) 1917 dL_law_1916 rfl rfl rfl ?_
  refine e_iconst 1918 dL_law_1917 rfl ?_
  refine e_iadd 1919 dL_law_1918 rfl ?_
  refine e_sald 1920 dL_law_1919 (by omega) (by omega) h2 rfl ?_
  refine e_callP 1923 mt_yX12_list mv_yX12_list wd_1779 (Nat.le_of_ble_eq_true rfl) dL_law_1920 at_928 jc_12 rfl rfl rfl (Nat.le_of_ble_eq_true rfl) ⟨by omega, by omega, by omega, by omega⟩ rfl hc (fun z2 M2 hc2 => ?_)
  obtain ⟨rfl, hI2⟩ := hc2
  refine e_w32 ?_
  refine e_w32b ?_
  exact e_icmp_eq 1926 2160 dL_law_1923 (w32_bnd _) (w32_bnd _) (by decide) rfl (fun _ => kk M2 hI2) (fun g => absurd rfl g)
theorem lc_45 {X : jX} {nm : String} {ret : Option FieldType} {R : Room} {QF : jQF} {cells slots : Nat} {M : jM} {i : Int} (hF : 68 ≤ R.frames) (hL : 7000 ≤ R.locals) (hC : cells ≤ R.cells) (hS : slots ≤ R.slots) (h2 : (X.2.2.2.2.1 : Int) < 100000) (h0 : 0 ≤ i) (h1 : i + 7 ≤ (X.2.2.2.2.1 : Int)) (hI : Inv M) (kk : ∀ M2 : jM, Inv M2 → gE X (yl nm) cL_law 4 ret R QF cells slots 949 topo M2 2160 (lwl i) []) : gE X (yl nm) cL_law 4 ret R QF cells slots 949 topo M 1928 (lwl i) [] := by
  refine e_aload_n (i := 1) 1929 dL_law_1928 rfl rfl rfl ?_
  refine e_aloadF_n (i := 0) 1930 dL_law_1929 rfl rfl rfl ?_
  refine e_iload_n (i := 3) 1931 dL_law_1930 rfl rfl rfl ?_
  refine e_iconst 1932 dL_law_1931 rfl ?_
  refine e_iadd 1933 dL_law_1932 rfl ?_
  refine e_sald 1934 dL_law_1933 (by omega) (by omega) h2 rfl ?_
  refine e_callP 1937 mt_yX11_match mv_yX11_match wd_1169 (Nat.le_of_ble_eq_true rfl) dL_law_1934 at_0 jc_11 rfl rfl rfl (Nat.le_of_ble_eq_true rfl) ⟨by omega, by omega, by omega, by omega⟩ rfl (p_match hI (i32_bnd _)) (fun z M1 hc => ?_)
  refine e_aload_n (i := 2) 1938 dL_law_1937 rfl rfl rfl ?_
  refine e_aloadF_n (i := 0) 1939 dL_law_1938 rfl rfl rfl ?_
  refine e_iload_n (i := 3) 1940 dL_law_1939 rfl rfl rfl ?_
  refine e_iconst 1941 dL_law_1940 rfl ?_
  refine e_iadd 1942 dL_law_1941 rfl ?_
  refine e_sald 1943 dL_law_1942 (by omega) (by omega) h2 rfl ?_
  refine e_callP 1946 mt_yX12_match mv_yX12_match wd_1783 (Nat.le_of_ble_eq_true rfl) dL_law_1943 at_928 jc_12 rfl rfl rfl (Nat.le_of_ble_eq_true rfl) ⟨by omega, by omega, by omega, by omega⟩ rfl hc (fun z2 M2 hc2 => ?_)
  obtain ⟨rfl, hI2⟩ := hc2
  refine e_w32 ?_
  refine e_w32b ?_
  exact e_icmp_eq 1949 2160 dL_law_1946 (w32_bnd _) (w32_bnd _) (by decide) rfl (fun _ => kk M2 hI2) (fun g => absurd rfl g)
theorem lc_46 {X : jX} {nm : String} {ret : Option FieldType} {R : Room} {QF : jQF} {cells slots : Nat} {M : jM} {i : Int} (hF : 68 ≤ R.frames) (hL : 7000 ≤ R.locals) (hC : cells ≤ R.cells) (hS : slots ≤ R.slots) (h2 : (X.2.2.2.2.1 : Int) < 100000) (h0 : 0 ≤ i) (h1 : i + 7 ≤ (X.2.2.2.2.1 : Int)) (hI : Inv M) (kk : ∀ M2 : jM, Inv M2 → gE X (yl nm) cL_law 4 ret R QF cells slots 949 topo M2 2160 (lwl i) []) : gE X (yl nm) cL_law 4 ret R QF cells slots 949 topo M 1951 (lwl i) [] := by
  refine e_aload_n (i := 1) 1952 dL_law_1951 rfl rfl rfl ?_
  refine e_aloadF_n (i := 0) 1953 dL_law_1952 rfl rfl rfl ?_
  refine e_iload_n (i := 3) 1954 dL_law_1953 rfl rfl rfl ?_
  refine e_iconst 1955 dL_law_1954 rfl ?_
  refine e_iadd 1956 dL_law_1955 rfl ?_
  refine e_sald 1957 dL_law_1956 (by omega) (by omega) h2 rfl ?_
  refine e_aloadF_n (i := 0) 1958 dL_law_1957 rfl rfl rfl ?_
  refine e_iload_n (i := 3) 1959 dL_law_1958 rfl rfl rfl ?_
  refine e_iconst 1960 dL_law_1959 rfl ?_
  refine e_iadd 1961 dL_law_1960 rfl ?_
  refine e_sald 1962 dL_law_1961 (by omega) (by omega) h2 rfl ?_
  refine e_aloadF_n (i := 0) 1963 dL_law_1962 rfl rfl rfl ?_
  refine e_iload_n (i := 3) 1964 dL_law_1963 rfl rfl rfl ?_
  refine e_iconst 1965 dL_law_1964 rfl ?_
  refine e_iadd 1966 dL_law_1965 rfl ?_
  refine e_sald 1967 dL_law_1966 (by omega) (by omega) h2 rfl ?_
  refine e_callP 1970 mt_yX11_row mv_yX11_row wd_1196 (Nat.le_of_ble_eq_true rfl) dL_law_1967 at_0 jc_11 rfl rfl rfl (Nat.le_of_ble_eq_true rfl) ⟨by omega, by omega, by omega, by omega⟩ rfl (p_row hI (i32_bnd _) (i32_bnd _) (i32_bnd _)) (fun z M1 hc => ?_)
  refine e_aload_n (i := 2) 1971 dL_law_1970 rfl rfl rfl ?_
  refine e_aloadF_n (i := 0) 1972 dL_law_1971 rfl rfl rfl ?_
  refine e_iload_n (i := 3) 1973 dL_law_1972 rfl rfl rfl ?_
  refine e_iconst 1974 dL_law_1973 rfl ?_
  refine e_iadd 1975 dL_law_1974 rfl ?_
  refine e_sald 1976 dL_law_1975 (by omega) (by omega) h2 rfl ?_
  refine e_aloadF_n (i := 0) 1977 dL_law_1976 rfl rfl rfl ?_
  refine e_iload_n (i := 3) 1978 dL_law_1977 rfl rfl rfl ?_
  refine e_iconst 1979 dL_law_1978 rfl ?_
  refine e_iadd 1980 dL_law_1979 rfl ?_
  refine e_sald 1981 dL_law_1980 (by omega) (by omega) h2 rfl ?_
  refine e_aloadF_n (i := 0) 1982 dL_law_1981 rfl rfl rfl ?_
  refine e_iload_n (i := 3) 1983 dL_law_1982 rfl rfl rfl ?_
  refine e_iconst 1984 dL_law_1983 rfl ?_
  refine e_iadd 1985 dL_law_1984 rfl ?_
  refine e_sald 1986 dL_law_1985 (by omega) (by omega) h2 rfl ?_
  refine e_callP 1989 mt_yX12_row mv_yX12_row wd_1803 (Nat.le_of_ble_eq_true rfl) dL_law_1986 at_928 jc_12 rfl rfl rfl (Nat.le_of_ble_eq_true rfl) ⟨by omega, by omega, by omega, by omega⟩ rfl hc (fun z2 M2 hc2 => ?_)
  obtain ⟨rfl, hI2⟩ := hc2
  refine e_w32 ?_
  refine e_w32b ?_
  exact e_icmp_eq 1992 2160 dL_law_1989 (w32_bnd _) (w32_bnd _) (by decide) rfl (fun _ => kk M2 hI2) (fun g => absurd rfl g)
theorem lc_47 {X : jX} {nm : String} {ret : Option FieldType} {R : Room} {QF : jQF} {cells slots : Nat} {M : jM} {i : Int} (hF : 68 ≤ R.frames) (hL : 7000 ≤ R.locals) (hC : cells ≤ R.cells) (hS : slots ≤ R.slots) (h2 : (X.2.2.2.2.1 : Int) < 100000) (h0 : 0 ≤ i) (h1 : i + 7 ≤ (X.2.2.2.2.1 : Int)) (hI : Inv M) (kk : ∀ M2 : jM, Inv M2 → gE X (yl nm) cL_law 4 ret R QF cells slots 949 topo M2 2160 (lwl i) []) : gE X (yl nm) cL_law 4 ret R QF cells slots 949 topo M 1994 (lwl i) [] := by
  refine e_aload_n (i := 1) 1995 dL_law_1994 rfl rfl rfl ?_
  refine e_aloadF_n (i := 0) 1996 dL_law_1995 rfl rfl rfl ?_
  refine e_iload_n (i := 3) 1997 dL_law_1996 rfl rfl rfl ?_
  refine e_iconst 1998 dL_law_1997 rfl ?_
  refine e_iadd 1999 dL_law_1998 rfl ?_
  refine e_sald 2000 dL_law_1999 (by omega) (by omega) h2 rfl ?_
  refine e_aloadF_n (i := 0) 2001 dL_law_2000 rfl rfl rfl ?_
  refine e_iload_n (i := 3) 2002 dL_law_2001 rfl rfl rfl ?_
  refine e_iconst 2003 dL_law_2002 rfl ?_
  refine e_iadd 2004 dL_law_2003 rfl ?_
  refine e_sald 2005 dL_law_2004 (by omega) (by omega) h2 rfl ?_
  refine e_aloadF_n (i := 0) 2006 dL_law_2005 rfl rfl rfl ?_
  refine e_iload_n (i := 3) 2007 dL_law_2006 rfl rfl rfl ?_
  refine e_iconst 2008 dL_law_2007 rfl ?_
  refine e_iadd 2009 dL_law_2008 rfl ?_
  refine e_sald 2010 dL_law_2009 (by omega) (by omega) h2 rfl ?_
  refine e_i2l 2011 dL_law_2010 (i32_bnd _) rfl ?_
  refine e_bipush 2013 dL_law_2011 (by decide) rfl ?_
  refine e_lshl 2014 dL_law_2013 rfl ?_
  refine e_aloadF_n (i := 0) 2015 dL_law_2014 rfl rfl rfl ?_
  refine e_iload_n (i := 3) 2016 dL_law_2015 rfl rfl rfl ?_
  refine e_iconst 2017 dL_law_2016 rfl ?_
  refine e_iadd 2018 dL_law_2017 rfl ?_
  refine e_sald 2019 dL_law_2018 (by omega) (by omega) h2 rfl ?_
  refine e_i2l 2020 dL_law_2019 (i32_bnd _) rfl ?_
  refine e_ldc2 (z := 4294967295) 2023 wd_1838 rfl dL_law_2020 rfl ?_
  refine e_land 2024 dL_law_2023 rfl ?_
  refine e_lor 2025 dL_law_2024 rfl ?_
  refine e_callP 2028 mt_yX11_write mv_yX11_write wd_1204 (Nat.le_of_ble_eq_true rfl) dL_law_2025 at_0 jc_11 rfl rfl rfl (Nat.le_of_ble_eq_true rfl) ⟨by omega, by omega, by omega, by omega⟩ rfl (p_write hI (i32_bnd _) (i32_bnd _) (jorL_bnd _ _)) (fun z M1 hc => ?_)
  refine e_aload_n (i := 2) 2029 dL_law_2028 rfl rfl rfl ?_
  refine e_aloadF_n (i := 0) 2030 dL_law_2029 rfl rfl rfl ?_
  refine e_iload_n (i := 3) 2031 dL_law_2030 rfl rfl rfl ?_
  refine e_iconst 2032 dL_law_2031 rfl ?_
  refine e_iadd 2033 dL_law_2032 rfl ?_
  refine e_sald 2034 dL_law_2033 (by omega) (by omega) h2 rfl ?_
  refine e_aloadF_n (i := 0) 2035 dL_law_2034 rfl rfl rfl ?_
  refine e_iload_n (i := 3) 2036 dL_law_2035 rfl rfl rfl ?_
  refine e_iconst 2037 dL_law_2036 rfl ?_
  refine e_iadd 2038 dL_law_2037 rfl ?_
  refine e_sald 2039 dL_law_2038 (by omega) (by omega) h2 rfl ?_
  refine e_aloadF_n (i := 0) 2040 dL_law_2039 rfl rfl rfl ?_
  refine e_iload_n (i := 3) 2041 dL_law_2040 rfl rfl rfl ?_
  refine e_iconst 2042 dL_law_2041 rfl ?_
  refine e_iadd 2043 dL_law_2042 rfl ?_
  refine e_sald 2044 dL_law_2043 (by omega) (by omega) h2 rfl ?_
  refine e_i2l 2045 dL_law_2044 (i32_bnd _) rfl ?_
  refine e_bipush 2047 dL_law_2045 (by decide) rfl ?_
  refine e_lshl 2048 dL_law_2047 rfl ?_
  refine e_aloadF_n (i := 0) 2049 dL_law_2048 rfl rfl rfl ?_
  refine e_iload_n (i := 3) 2050 dL_law_2049 rfl rfl rfl ?_
  refine e_iconst 2051 dL_law_2050 rfl ?_
  refine e_iadd 2052 dL_law_2051 rfl ?_
  refine e_sald 2053 dL_law_2052 (by omega) (by omega) h2 rfl ?_
  refine e_i2l 2054 dL_law_2053 (i32_bnd _) rfl ?_
  refine e_ldc2 (z := 4294967295) 2057 wd_1838 rfl dL_law_2054 rfl ?_
  refine e_land 2058 dL_law_2057 rfl ?_
  refine e_lor 2059 dL_law_2058 rfl ?_
  refine e_callP 2062 mt_yX12_write mv_yX12_write wd_1808 (Nat.le_of_ble_eq_true rfl) dL_law_2059 at_928 jc_12 rfl rfl rfl (Nat.le_of_ble_eq_true rfl) ⟨by omega, by omega, by omega, by omega⟩ rfl hc (fun z2 M2 hc2 => ?_)
  obtain ⟨rfl, hI2⟩ := hc2
  refine e_w64 ?_
  refine e_w64b ?_
  refine e_lcmp 2063 dL_law_2062 (w64_bnd _) (w64_bnd _) rfl (fun g => absurd g (Int.lt_irrefl _)) (fun _ => ?_) (fun g => absurd g (Int.lt_irrefl _))
  exact e_if_eq 2066 2160 dL_law_2063 (by decide) (by decide) rfl (fun _ => kk M2 hI2) (fun g => absurd rfl g)
theorem lc_48 {X : jX} {nm : String} {ret : Option FieldType} {R : Room} {QF : jQF} {cells slots : Nat} {M : jM} {i : Int} (hF : 68 ≤ R.frames) (hL : 7000 ≤ R.locals) (hC : cells ≤ R.cells) (hS : slots ≤ R.slots) (h2 : (X.2.2.2.2.1 : Int) < 100000) (h0 : 0 ≤ i) (h1 : i + 7 ≤ (X.2.2.2.2.1 : Int)) (hI : Inv M) (kk : ∀ M2 : jM, Inv M2 → gE X (yl nm) cL_law 4 ret R QF cells slots 949 topo M2 2160 (lwl i) []) : gE X (yl nm) cL_law 4 ret R QF cells slots 949 topo M 2068 (lwl i) [] := by
  refine e_aload_n (i := 1) 2069 dL_law_2068 rfl rfl rfl ?_
  refine e_aloadF_n (i := 0) 2070 dL_law_2069 rfl rfl rfl ?_
  refine e_iload_n (i := 3) 2071 dL_law_2070 rfl rfl rfl ?_
  refine e_iconst 2072 dL_law_2071 rfl ?_
  refine e_iadd 2073 dL_law_2072 rfl ?_
  refine e_sald 2074 dL_law_2073 (by omega) (by omega) h2 rfl ?_
  refine e_callP 2077 mt_yX11_clerk mv_yX11_clerk wd_1218 (Nat.le_of_ble_eq_true rfl) dL_law_2074 at_0 jc_11 rfl rfl rfl (Nat.le_of_ble_eq_true rfl) ⟨by omega, by omega, by omega, by omega⟩ rfl (p_clerk hI (i32_bnd _)) (fun z M1 hc => ?_)
  refine e_aload_n (i := 2) 2078 dL_law_2077 rfl rfl rfl ?_
  refine e_aloadF_n (i := 0) 2079 dL_law_2078 rfl rfl rfl ?_
  refine e_iload_n (i := 3) 2080 dL_law_2079 rfl rfl rfl ?_
  refine e_iconst 2081 dL_law_2080 rfl ?_
  refine e_iadd 2082 dL_law_2081 rfl ?_
  refine e_sald 2083 dL_law_2082 (by omega) (by omega) h2 rfl ?_
  refine e_callP 2086 mt_yX12_clerk mv_yX12_clerk wd_1817 (Nat.le_of_ble_eq_true rfl) dL_law_2083 at_928 jc_12 rfl rfl rfl (Nat.le_of_ble_eq_true rfl) ⟨by omega, by omega, by omega, by omega⟩ rfl hc (fun z2 M2 hc2 => ?_)
  obtain ⟨rfl, hI2⟩ := hc2
  refine e_w32 ?_
  refine e_w32b ?_
  exact e_icmp_eq 2089 2160 dL_law_2086 (w32_bnd _) (w32_bnd _) (by decide) rfl (fun _ => kk M2 hI2) (fun g => absurd rfl g)
theorem lc_49 {X : jX} {nm : String} {ret : Option FieldType} {R : Room} {QF : jQF} {cells slots : Nat} {M : jM} {i : Int} (hF : 68 ≤ R.frames) (hL : 7000 ≤ R.locals) (hC : cells ≤ R.cells) (hS : slots ≤ R.slots) (h2 : (X.2.2.2.2.1 : Int) < 100000) (h0 : 0 ≤ i) (h1 : i + 7 ≤ (X.2.2.2.2.1 : Int)) (hI : Inv M) (kk : ∀ M2 : jM, Inv M2 → gE X (yl nm) cL_law 4 ret R QF cells slots 949 topo M2 2160 (lwl i) []) : gE X (yl nm) cL_law 4 ret R QF cells slots 949 topo M 2091 (lwl i) [] := by
  refine e_aload_n (i := 1) 2092 dL_law_2091 rfl rfl rfl ?_
  refine e_aloadF_n (i := 0) 2093 dL_law_2092 rfl rfl rfl ?_
  refine e_iload_n (i := 3) 2094 dL_law_2093 rfl rfl rfl ?_
  refine e_iconst 2095 dL_law_2094 rfl ?_
  refine e_iadd 2096 dL_law_2095 rfl ?_
  refine e_sald 2097 dL_law_2096 (by omega) (by omega) h2 rfl ?_
  refine e_callP 2100 mt_yX11_image mv_yX11_image wd_1223 (Nat.le_of_ble_eq_true rfl) dL_law_2097 at_0 jc_11 rfl rfl rfl (Nat.le_of_ble_eq_true rfl) ⟨by omega, by omega, by omega, by omega⟩ rfl (p_image hI (i32_bnd _)) (fun z M1 hc => ?_)
  refine e_aload_n (i := 2) 2101 dL_law_2100 rfl rfl rfl ?_
  refine e_aloadF_n (i := 0) 2102 dL_law_2101 rfl rfl rfl ?_
  refine e_iload_n (i := 3) 2103 dL_law_2102 rfl rfl rfl ?_
  refine e_iconst 2104 dL_law_2103 rfl ?_
  refine e_iadd 2105 dL_law_2104 rfl ?_
  refine e_sald 2106 dL_law_2105 (by omega) (by omega) h2 rfl ?_
  refine e_callP 2109 mt_yX12_image mv_yX12_image wd_1821 (Nat.le_of_ble_eq_true rfl) dL_law_2106 at_928 jc_12 rfl rfl rfl (Nat.le_of_ble_eq_true rfl) ⟨by omega, by omega, by omega, by omega⟩ rfl hc (fun z2 M2 hc2 => ?_)
  obtain ⟨rfl, hI2⟩ := hc2
  refine e_w32 ?_
  refine e_w32b ?_
  exact e_icmp_eq 2112 2160 dL_law_2109 (w32_bnd _) (w32_bnd _) (by decide) rfl (fun _ => kk M2 hI2) (fun g => absurd rfl g)
theorem lc_50 {X : jX} {nm : String} {ret : Option FieldType} {R : Room} {QF : jQF} {cells slots : Nat} {M : jM} {i : Int} (hF : 68 ≤ R.frames) (hL : 7000 ≤ R.locals) (hC : cells ≤ R.cells) (hS : slots ≤ R.slots) (h2 : (X.2.2.2.2.1 : Int) < 100000) (h0 : 0 ≤ i) (h1 : i + 7 ≤ (X.2.2.2.2.1 : Int)) (hI : Inv M) (kk : ∀ M2 : jM, Inv M2 → gE X (yl nm) cL_law 4 ret R QF cells slots 949 topo M2 2160 (lwl i) []) : gE X (yl nm) cL_law 4 ret R QF cells slots 949 topo M 2114 (lwl i) [] := by
  refine e_aload_n (i := 1) 2115 dL_law_2114 rfl rfl rfl ?_
  refine e_aloadF_n (i := 0) 2116 dL_law_2115 rfl rfl rfl ?_
  refine e_iload_n (i := 3) 2117 dL_law_2116 rfl rfl rfl ?_
  refine e_iconst 2118 dL_law_2117 rfl ?_
  refine e_iadd 2119 dL_law_2118 rfl ?_
  refine e_sald 2120 dL_law_2119 (by omega) (by omega) h2 rfl ?_
  refine e_callP 2123 mt_yX11_restore mv_yX11_restore wd_1261 (Nat.le_of_ble_eq_true rfl) dL_law_2120 at_0 jc_11 rfl rfl rfl (Nat.le_of_ble_eq_true rfl) ⟨by omega, by omega, by omega, by omega⟩ rfl (p_restore hI (i32_bnd _)) (fun z M1 hc => ?_)
  refine e_aload_n (i := 2) 2124 dL_law_2123 rfl rfl rfl ?_
  refine e_aloadF_n (i := 0) 2125 dL_law_2124 rfl rfl rfl ?_
  refine e_iload_n (i := 3) 2126 dL_law_2125 rfl rfl rfl ?_
  refine e_iconst 2127 dL_law_2126 rfl ?_
  refine e_iadd 2128 dL_law_2127 rfl ?_
  refine e_sald 2129 dL_law_2128 (by omega) (by omega) h2 rfl ?_
  refine e_callP 2132 mt_yX12_restore mv_yX12_restore wd_1825 (Nat.le_of_ble_eq_true rfl) dL_law_2129 at_928 jc_12 rfl rfl rfl (Nat.le_of_ble_eq_true rfl) ⟨by omega, by omega, by omega, by omega⟩ rfl hc (fun z2 M2 hc2 => ?_)
  obtain ⟨rfl, hI2⟩ := hc2
  refine e_w32 ?_
  refine e_w32b ?_
  exact e_icmp_eq 2135 2160 dL_law_2132 (w32_bnd _) (w32_bnd _) (by decide) rfl (fun _ => kk M2 hI2) (fun g => absurd rfl g)
theorem lc_51 {X : jX} {nm : String} {ret : Option FieldType} {R : Room} {QF : jQF} {cells slots : Nat} {M : jM} {i : Int} (hF : 68 ≤ R.frames) (hL : 7000 ≤ R.locals) (hC : cells ≤ R.cells) (hS : slots ≤ R.slots) (h2 : (X.2.2.2.2.1 : Int) < 100000) (h0 : 0 ≤ i) (h1 : i + 7 ≤ (X.2.2.2.2.1 : Int)) (hI : Inv M) (kk : ∀ M2 : jM, Inv M2 → gE X (yl nm) cL_law 4 ret R QF cells slots 949 topo M2 2160 (lwl i) []) : gE X (yl nm) cL_law 4 ret R QF cells slots 949 topo M 2137 (lwl i) [] := by
  refine e_aload_n (i := 1) 2138 dL_law_2137 rfl rfl rfl ?_
  refine e_aloadF_n (i := 0) 2139 dL_law_2138 rfl rfl rfl ?_
  refine e_iload_n (i := 3) 2140 dL_law_2139 rfl rfl rfl ?_
  refine e_iconst 2141 dL_law_2140 rfl ?_
  refine e_iadd 2142 dL_law_2141 rfl ?_
  refine e_sald 2143 dL_law_2142 (by omega) (by omega) h2 rfl ?_
  refine e_callP 2146 mt_yX11_count mv_yX11_count wd_1265 (Nat.le_of_ble_eq_true rfl) dL_law_2143 at_0 jc_11 rfl rfl rfl (Nat.le_of_ble_eq_true rfl) ⟨by omega, by omega, by omega, by omega⟩ rfl (p_count hI (i32_bnd _)) (fun z M1 hc => ?_)
  refine e_aload_n (i := 2) 2147 dL_law_2146 rfl rfl rfl ?_
  refine e_aloadF_n (i := 0) 2148 dL_law_2147 rfl rfl rfl ?_
  refine e_iload_n (i := 3) 2149 dL_law_2148 rfl rfl rfl ?_
  refine e_iconst 2150 dL_law_2149 rfl ?_
  refine e_iadd 2151 dL_law_2150 rfl ?_
  refine e_sald 2152 dL_law_2151 (by omega) (by omega) h2 rfl ?_
  refine e_callP 2155 mt_yX12_count mv_yX12_count wd_1829 (Nat.le_of_ble_eq_true rfl) dL_law_2152 at_928 jc_12 rfl rfl rfl (Nat.le_of_ble_eq_true rfl) ⟨by omega, by omega, by omega, by omega⟩ rfl hc (fun z2 M2 hc2 => ?_)
  obtain ⟨rfl, hI2⟩ := hc2
  refine e_w32 ?_
  refine e_w32b ?_
  exact e_icmp_eq 2158 2160 dL_law_2155 (w32_bnd _) (w32_bnd _) (by decide) rfl (fun _ => kk M2 hI2) (fun g => absurd rfl g)
