/-! The law: cases 30 to 39 -/
set_option maxRecDepth 20000 in
set_option maxHeartbeats 1000000 in
theorem law_30 {X : Cx} {h0 mc0 ms0 N i a b : Nat} {xs : Nat → Int32} {σ : Sg} {A : AS} (hx : CX X cL_law RL h0 mc0 ms0) (hh0 : 40 ≤ h0) (hX : LWX X N xs) (hnc : NCS X.2.2.2.2.2.1) (hl : X.2.2.1.stackTraces = false) (hN : N ≤ 1536) (hi : i + 3 ≤ N) (hC : CR σ A) (hR : MR σ A) (ha : a + 3 ≤ mc0) (hb : b + 18 ≤ ms0) (kk : ∀ σ' A', CR σ' A' → MR σ' A' → GJ X (a + 3) (b + 18) 2067 [some (.inr 1040), some (.inr 69), some (.inr 70), some (.inr 81), some (.inr 82), some (.inl (i : Int)), none, none, none] [] σ') : GJ X a b 1593 [some (.inr 1040), some (.inr 69), some (.inr 70), some (.inr 81), some (.inr 82), some (.inl (i : Int)), none, none, none] [] σ := by
  refine gx_aload_n hx dL_law_1593 rfl ?_
  refine gx_aload_n hx dL_law_1594 rfl ?_
  refine gx_iload hx dL_law_1595 rfl ?_
  refine gx_iconst hx dL_law_1597 ?_
  refine gx_iadd hx dL_law_1598 ?_
  refine gx_sld hx hX dL_law_1599 (by omega) (by omega) (by omega) ?_
  refine gx_aload_n hx dL_law_1600 rfl ?_
  refine gx_callL hx hnc (c_L_literalCount _ _ hl hC (rg_of _)) lkL_232 mwL_literalCount dL_law_1601 rfl rfl (Nat.le_of_ble_eq_true rfl) (by omega) ⟨by omega, by omega⟩ (fun z1 σ1 h1 => ?_)
  obtain ⟨n1, v1, A1, rfl, n9, r1, c1, o1, k1⟩ := h1
  have hR1 : MR σ1 A := hR.out (fun k q1 q2 => k1 k q1 (by omega) (by omega))
  refine gx_istore hx dL_law_1604 (Nat.le_of_ble_eq_true rfl) ?_
  refine gx_aload_n hx dL_law_1606 rfl ?_
  refine gx_aload_n hx dL_law_1607 rfl ?_
  refine gx_iload hx dL_law_1608 rfl ?_
  refine gx_iconst hx dL_law_1610 ?_
  refine gx_iadd hx dL_law_1611 ?_
  refine gx_sld hx hX dL_law_1612 (by omega) (by omega) (by omega) ?_
  refine gx_callI hx (c_X9_literalCount _ _ hR1 (rg_of _)) lkL_234 mwX9_literalCount dL_law_1613 (by decide) rfl rfl rfl rfl (Nat.le_of_ble_eq_true rfl) (by omega) ⟨by omega, by omega⟩ (fun z2 σ2 h2 => ?_)
  obtain ⟨c2, A2, r2, m2, m3, m4⟩ := h2
  obtain ⟨rfl, rfl, rfl⟩ := (uniq_fn _) _ _ _ _ _ _ r1 r2
  refine gx_istore hx dL_law_1616 (Nat.le_of_ble_eq_true rfl) ?_
  refine gx_aload_n hx dL_law_1618 rfl ?_
  refine gx_callI hx (c_X9_thrown _ _) lkL_139 mwX9_thrown dL_law_1619 (by decide) rfl rfl rfl rfl (Nat.le_of_ble_eq_true rfl) (by omega) ⟨by omega, by omega⟩ (fun z3 σ3 h3 => ?_)
  obtain ⟨rfl, rfl⟩ := h3
  rw [m3]
  refine gx_iload hx dL_law_1622 rfl ?_
  refine gx_icmpS (tgt := 1629) hx dL_law_1624 (by decide) ?_
  refine gx_iload hx dL_law_1629 rfl ?_
  have hend : GJ X (a + 3) (b + 18) 1646 [some (.inr 1040), some (.inr 69), some (.inr 70), some (.inr 81), some (.inr 82), some (.inl (i : Int)), some (.inl (n1 : Int)), some (.inl v1), none] [] σ2 := by
    refine gx_goto (tgt := 2067) hx dL_law_1646 (by decide) ?_
    refine GJ.drop 6 (GJ.drop 7 ?_)
    exact GJ.widen (by omega) (by omega) (kk _ _ (c1.out (fun k hk => m4 k (Or.inl hk))) m2)
  refine gx_if_ne (tgt := 1646) hx dL_law_1631 (by decide) ⟨by omega, by omega⟩ (fun hq => ?_) (fun hq => ?_)
  · exact GJ.widen (by omega) (by omega) hend
  · have hz : σ2 81 0 = (ii v1).toInt := by
      rw [m4 81 (Or.inr (by decide))]
      exact o1 (by omega)
    refine gx_aload_n hx dL_law_1634 rfl ?_
    refine gx_iconst hx dL_law_1635 ?_
    refine gx_lcmpS (tgt := 1646) hx hz dL_law_1636 dL_law_1637 dL_law_1639 dL_law_1640 dL_law_1641 (by decide) rfl ?_
    exact GJ.widen (by omega) (by omega) hend
set_option maxRecDepth 20000 in
set_option maxHeartbeats 1000000 in
theorem law_31 {X : Cx} {h0 mc0 ms0 N i a b : Nat} {xs : Nat → Int32} {σ : Sg} {A : AS} (hx : CX X cL_law RL h0 mc0 ms0) (hh0 : 40 ≤ h0) (hX : LWX X N xs) (hnc : NCS X.2.2.2.2.2.1) (hl : X.2.2.1.stackTraces = false) (hN : N ≤ 1536) (hi : i + 3 ≤ N) (hC : CR σ A) (hR : MR σ A) (ha : a + 3 ≤ mc0) (hb : b + 18 ≤ ms0) (kk : ∀ σ' A', CR σ' A' → MR σ' A' → GJ X (a + 3) (b + 18) 2067 [some (.inr 1040), some (.inr 69), some (.inr 70), some (.inr 81), some (.inr 82), some (.inl (i : Int)), none, none, none] [] σ') : GJ X a b 1649 [some (.inr 1040), some (.inr 69), some (.inr 70), some (.inr 81), some (.inr 82), some (.inl (i : Int)), none, none, none] [] σ := by
  refine gx_aload_n hx dL_law_1649 rfl ?_
  refine gx_aload_n hx dL_law_1650 rfl ?_
  refine gx_iload hx dL_law_1651 rfl ?_
  refine gx_iconst hx dL_law_1653 ?_
  refine gx_iadd hx dL_law_1654 ?_
  refine gx_sld hx hX dL_law_1655 (by omega) (by omega) (by omega) ?_
  refine gx_aload_n hx dL_law_1656 rfl ?_
  refine gx_iload hx dL_law_1657 rfl ?_
  refine gx_iconst hx dL_law_1659 ?_
  refine gx_iadd hx dL_law_1660 ?_
  refine gx_sld hx hX dL_law_1661 (by omega) (by omega) (by omega) ?_
  refine gx_aload_n hx dL_law_1662 rfl ?_
  refine gx_callL hx hnc (c_L_literal _ _ hl hC (rg_of _) (rg_of _)) lkL_235 mwL_literal dL_law_1663 rfl rfl (Nat.le_of_ble_eq_true rfl) (by omega) ⟨by omega, by omega⟩ (fun z1 σ1 h1 => ?_)
  obtain ⟨n1, v1, A1, rfl, n9, r1, c1, o1, k1⟩ := h1
  have hR1 : MR σ1 A := hR.out (fun k q1 q2 => k1 k q1 (by omega) (by omega))
  refine gx_istore hx dL_law_1666 (Nat.le_of_ble_eq_true rfl) ?_
  refine gx_aload_n hx dL_law_1668 rfl ?_
  refine gx_aload_n hx dL_law_1669 rfl ?_
  refine gx_iload hx dL_law_1670 rfl ?_
  refine gx_iconst hx dL_law_1672 ?_
  refine gx_iadd hx dL_law_1673 ?_
  refine gx_sld hx hX dL_law_1674 (by omega) (by omega) (by omega) ?_
  refine gx_aload_n hx dL_law_1675 rfl ?_
  refine gx_iload hx dL_law_1676 rfl ?_
  refine gx_iconst hx dL_law_1678 ?_
  refine gx_iadd hx dL_law_1679 ?_
  refine gx_sld hx hX dL_law_1680 (by omega) (by omega) (by omega) ?_
  refine gx_callI hx (c_X9_literal _ _ hR1 (rg_of _) (rg_of _)) lkL_237 mwX9_literal dL_law_1681 (by decide) rfl rfl rfl rfl (Nat.le_of_ble_eq_true rfl) (by omega) ⟨by omega, by omega⟩ (fun z2 σ2 h2 => ?_)
  obtain ⟨c2, A2, r2, m2, m3, m4⟩ := h2
  obtain ⟨rfl, rfl, rfl⟩ := (uniq_fn _) _ _ _ _ _ _ r1 r2
  refine gx_istore hx dL_law_1684 (Nat.le_of_ble_eq_true rfl) ?_
  refine gx_aload_n hx dL_law_1686 rfl ?_
  refine gx_callI hx (c_X9_thrown _ _) lkL_139 mwX9_thrown dL_law_1687 (by decide) rfl rfl rfl rfl (Nat.le_of_ble_eq_true rfl) (by omega) ⟨by omega, by omega⟩ (fun z3 σ3 h3 => ?_)
  obtain ⟨rfl, rfl⟩ := h3
  rw [m3]
  refine gx_iload hx dL_law_1690 rfl ?_
  refine gx_icmpS (tgt := 1697) hx dL_law_1692 (by decide) ?_
  refine gx_iload hx dL_law_1697 rfl ?_
  have hend : GJ X (a + 3) (b + 18) 1714 [some (.inr 1040), some (.inr 69), some (.inr 70), some (.inr 81), some (.inr 82), some (.inl (i : Int)), some (.inl (n1 : Int)), some (.inl v1), none] [] σ2 := by
    refine gx_goto (tgt := 2067) hx dL_law_1714 (by decide) ?_
    refine GJ.drop 6 (GJ.drop 7 ?_)
    exact GJ.widen (by omega) (by omega) (kk _ _ (c1.out (fun k hk => m4 k (Or.inl hk))) m2)
  refine gx_if_ne (tgt := 1714) hx dL_law_1699 (by decide) ⟨by omega, by omega⟩ (fun hq => ?_) (fun hq => ?_)
  · exact GJ.widen (by omega) (by omega) hend
  · have hz : σ2 81 0 = (ii v1).toInt := by
      rw [m4 81 (Or.inr (by decide))]
      exact o1 (by omega)
    refine gx_aload_n hx dL_law_1702 rfl ?_
    refine gx_iconst hx dL_law_1703 ?_
    refine gx_lcmpS (tgt := 1714) hx hz dL_law_1704 dL_law_1705 dL_law_1707 dL_law_1708 dL_law_1709 (by decide) rfl ?_
    exact GJ.widen (by omega) (by omega) hend
set_option maxRecDepth 20000 in
set_option maxHeartbeats 1000000 in
theorem law_32 {X : Cx} {h0 mc0 ms0 N i a b : Nat} {xs : Nat → Int32} {σ : Sg} {A : AS} (hx : CX X cL_law RL h0 mc0 ms0) (hh0 : 40 ≤ h0) (hX : LWX X N xs) (hnc : NCS X.2.2.2.2.2.1) (hl : X.2.2.1.stackTraces = false) (hN : N ≤ 1536) (hi : i + 3 ≤ N) (hC : CR σ A) (hR : MR σ A) (ha : a + 3 ≤ mc0) (hb : b + 18 ≤ ms0) (kk : ∀ σ' A', CR σ' A' → MR σ' A' → GJ X (a + 3) (b + 18) 2067 [some (.inr 1040), some (.inr 69), some (.inr 70), some (.inr 81), some (.inr 82), some (.inl (i : Int)), none, none, none] [] σ') : GJ X a b 1717 [some (.inr 1040), some (.inr 69), some (.inr 70), some (.inr 81), some (.inr 82), some (.inl (i : Int)), none, none, none] [] σ := by
  refine gx_aload_n hx dL_law_1717 rfl ?_
  refine gx_aload_n hx dL_law_1718 rfl ?_
  refine gx_iload hx dL_law_1719 rfl ?_
  refine gx_iconst hx dL_law_1721 ?_
  refine gx_iadd hx dL_law_1722 ?_
  refine gx_sld hx hX dL_law_1723 (by omega) (by omega) (by omega) ?_
  refine gx_aload_n hx dL_law_1724 rfl ?_
  refine gx_iload hx dL_law_1725 rfl ?_
  refine gx_iconst hx dL_law_1727 ?_
  refine gx_iadd hx dL_law_1728 ?_
  refine gx_sld hx hX dL_law_1729 (by omega) (by omega) (by omega) ?_
  refine gx_aload_n hx dL_law_1730 rfl ?_
  refine gx_callL hx hnc (c_L_literalAddress _ _ hl hC (rg_of _) (rg_of _)) lkL_238 mwL_literalAddress dL_law_1731 rfl rfl (Nat.le_of_ble_eq_true rfl) (by omega) ⟨by omega, by omega⟩ (fun z1 σ1 h1 => ?_)
  obtain ⟨n1, v1, A1, rfl, n9, r1, c1, o1, k1⟩ := h1
  have hR1 : MR σ1 A := hR.out (fun k q1 q2 => k1 k q1 (by omega) (by omega))
  refine gx_istore hx dL_law_1734 (Nat.le_of_ble_eq_true rfl) ?_
  refine gx_aload_n hx dL_law_1736 rfl ?_
  refine gx_aload_n hx dL_law_1737 rfl ?_
  refine gx_iload hx dL_law_1738 rfl ?_
  refine gx_iconst hx dL_law_1740 ?_
  refine gx_iadd hx dL_law_1741 ?_
  refine gx_sld hx hX dL_law_1742 (by omega) (by omega) (by omega) ?_
  refine gx_aload_n hx dL_law_1743 rfl ?_
  refine gx_iload hx dL_law_1744 rfl ?_
  refine gx_iconst hx dL_law_1746 ?_
  refine gx_iadd hx dL_law_1747 ?_
  refine gx_sld hx hX dL_law_1748 (by omega) (by omega) (by omega) ?_
  refine gx_callI hx (c_X9_literalAddress _ _ hR1 (rg_of _) (rg_of _)) lkL_240 mwX9_literalAddress dL_law_1749 (by decide) rfl rfl rfl rfl (Nat.le_of_ble_eq_true rfl) (by omega) ⟨by omega, by omega⟩ (fun z2 σ2 h2 => ?_)
  obtain ⟨c2, A2, r2, m2, m3, m4⟩ := h2
  obtain ⟨rfl, rfl, rfl⟩ := (uniq_fn _) _ _ _ _ _ _ r1 r2
  refine gx_istore hx dL_law_1752 (Nat.le_of_ble_eq_true rfl) ?_
  refine gx_aload_n hx dL_law_1754 rfl ?_
  refine gx_callI hx (c_X9_thrown _ _) lkL_139 mwX9_thrown dL_law_1755 (by decide) rfl rfl rfl rfl (Nat.le_of_ble_eq_true rfl) (by omega) ⟨by omega, by omega⟩ (fun z3 σ3 h3 => ?_)
  obtain ⟨rfl, rfl⟩ := h3
  rw [m3]
  refine gx_iload hx dL_law_1758 rfl ?_
  refine gx_icmpS (tgt := 1765) hx dL_law_1760 (by decide) ?_
  refine gx_iload hx dL_law_1765 rfl ?_
  have hend : GJ X (a + 3) (b + 18) 1782 [some (.inr 1040), some (.inr 69), some (.inr 70), some (.inr 81), some (.inr 82), some (.inl (i : Int)), some (.inl (n1 : Int)), some (.inl v1), none] [] σ2 := by
    refine gx_goto (tgt := 2067) hx dL_law_1782 (by decide) ?_
    refine GJ.drop 6 (GJ.drop 7 ?_)
    exact GJ.widen (by omega) (by omega) (kk _ _ (c1.out (fun k hk => m4 k (Or.inl hk))) m2)
  refine gx_if_ne (tgt := 1782) hx dL_law_1767 (by decide) ⟨by omega, by omega⟩ (fun hq => ?_) (fun hq => ?_)
  · exact GJ.widen (by omega) (by omega) hend
  · have hz : σ2 81 0 = (ii v1).toInt := by
      rw [m4 81 (Or.inr (by decide))]
      exact o1 (by omega)
    refine gx_aload_n hx dL_law_1770 rfl ?_
    refine gx_iconst hx dL_law_1771 ?_
    refine gx_lcmpS (tgt := 1782) hx hz dL_law_1772 dL_law_1773 dL_law_1775 dL_law_1776 dL_law_1777 (by decide) rfl ?_
    exact GJ.widen (by omega) (by omega) hend
set_option maxRecDepth 20000 in
set_option maxHeartbeats 1000000 in
theorem law_33 {X : Cx} {h0 mc0 ms0 N i a b : Nat} {xs : Nat → Int32} {σ : Sg} {A : AS} (hx : CX X cL_law RL h0 mc0 ms0) (hh0 : 40 ≤ h0) (hX : LWX X N xs) (hnc : NCS X.2.2.2.2.2.1) (hl : X.2.2.1.stackTraces = false) (hN : N ≤ 1536) (hi : i + 3 ≤ N) (hC : CR σ A) (hR : MR σ A) (ha : a + 3 ≤ mc0) (hb : b + 18 ≤ ms0) (kk : ∀ σ' A', CR σ' A' → MR σ' A' → GJ X (a + 3) (b + 18) 2067 [some (.inr 1040), some (.inr 69), some (.inr 70), some (.inr 81), some (.inr 82), some (.inl (i : Int)), none, none, none] [] σ') : GJ X a b 1785 [some (.inr 1040), some (.inr 69), some (.inr 70), some (.inr 81), some (.inr 82), some (.inl (i : Int)), none, none, none] [] σ := by
  refine gx_aload_n hx dL_law_1785 rfl ?_
  refine gx_aload_n hx dL_law_1786 rfl ?_
  refine gx_iload hx dL_law_1787 rfl ?_
  refine gx_iconst hx dL_law_1789 ?_
  refine gx_iadd hx dL_law_1790 ?_
  refine gx_sld hx hX dL_law_1791 (by omega) (by omega) (by omega) ?_
  refine gx_aload_n hx dL_law_1792 rfl ?_
  refine gx_callL hx hnc (c_L_poolOf _ _ hl hC (rg_of _)) lkL_241 mwL_poolOf dL_law_1793 rfl rfl (Nat.le_of_ble_eq_true rfl) (by omega) ⟨by omega, by omega⟩ (fun z1 σ1 h1 => ?_)
  obtain ⟨n1, v1, A1, rfl, n9, r1, c1, o1, k1⟩ := h1
  have hR1 : MR σ1 A := hR.out (fun k q1 q2 => k1 k q1 (by omega) (by omega))
  refine gx_istore hx dL_law_1796 (Nat.le_of_ble_eq_true rfl) ?_
  refine gx_aload_n hx dL_law_1798 rfl ?_
  refine gx_aload_n hx dL_law_1799 rfl ?_
  refine gx_iload hx dL_law_1800 rfl ?_
  refine gx_iconst hx dL_law_1802 ?_
  refine gx_iadd hx dL_law_1803 ?_
  refine gx_sld hx hX dL_law_1804 (by omega) (by omega) (by omega) ?_
  refine gx_callI hx (c_X9_poolOf _ _ hR1 (rg_of _)) lkL_243 mwX9_poolOf dL_law_1805 (by decide) rfl rfl rfl rfl (Nat.le_of_ble_eq_true rfl) (by omega) ⟨by omega, by omega⟩ (fun z2 σ2 h2 => ?_)
  obtain ⟨c2, A2, r2, m2, m3, m4⟩ := h2
  obtain ⟨rfl, rfl, rfl⟩ := (uniq_fn _) _ _ _ _ _ _ r1 r2
  refine gx_istore hx dL_law_1808 (Nat.le_of_ble_eq_true rfl) ?_
  refine gx_aload_n hx dL_law_1810 rfl ?_
  refine gx_callI hx (c_X9_thrown _ _) lkL_139 mwX9_thrown dL_law_1811 (by decide) rfl rfl rfl rfl (Nat.le_of_ble_eq_true rfl) (by omega) ⟨by omega, by omega⟩ (fun z3 σ3 h3 => ?_)
  obtain ⟨rfl, rfl⟩ := h3
  rw [m3]
  refine gx_iload hx dL_law_1814 rfl ?_
  refine gx_icmpS (tgt := 1821) hx dL_law_1816 (by decide) ?_
  refine gx_iload hx dL_law_1821 rfl ?_
  have hend : GJ X (a + 3) (b + 18) 1838 [some (.inr 1040), some (.inr 69), some (.inr 70), some (.inr 81), some (.inr 82), some (.inl (i : Int)), some (.inl (n1 : Int)), some (.inl v1), none] [] σ2 := by
    refine gx_goto (tgt := 2067) hx dL_law_1838 (by decide) ?_
    refine GJ.drop 6 (GJ.drop 7 ?_)
    exact GJ.widen (by omega) (by omega) (kk _ _ (c1.out (fun k hk => m4 k (Or.inl hk))) m2)
  refine gx_if_ne (tgt := 1838) hx dL_law_1823 (by decide) ⟨by omega, by omega⟩ (fun hq => ?_) (fun hq => ?_)
  · exact GJ.widen (by omega) (by omega) hend
  · have hz : σ2 81 0 = (ii v1).toInt := by
      rw [m4 81 (Or.inr (by decide))]
      exact o1 (by omega)
    refine gx_aload_n hx dL_law_1826 rfl ?_
    refine gx_iconst hx dL_law_1827 ?_
    refine gx_lcmpS (tgt := 1838) hx hz dL_law_1828 dL_law_1829 dL_law_1831 dL_law_1832 dL_law_1833 (by decide) rfl ?_
    exact GJ.widen (by omega) (by omega) hend
set_option maxRecDepth 20000 in
set_option maxHeartbeats 1000000 in
theorem law_34 {X : Cx} {h0 mc0 ms0 N i a b : Nat} {xs : Nat → Int32} {σ : Sg} {A : AS} (hx : CX X cL_law RL h0 mc0 ms0) (hh0 : 40 ≤ h0) (hX : LWX X N xs) (hnc : NCS X.2.2.2.2.2.1) (hl : X.2.2.1.stackTraces = false) (hN : N ≤ 1536) (hi : i + 3 ≤ N) (hC : CR σ A) (hR : MR σ A) (ha : a + 3 ≤ mc0) (hb : b + 18 ≤ ms0) (kk : ∀ σ' A', CR σ' A' → MR σ' A' → GJ X (a + 3) (b + 18) 2067 [some (.inr 1040), some (.inr 69), some (.inr 70), some (.inr 81), some (.inr 82), some (.inl (i : Int)), none, none, none] [] σ') : GJ X a b 1841 [some (.inr 1040), some (.inr 69), some (.inr 70), some (.inr 81), some (.inr 82), some (.inl (i : Int)), none, none, none] [] σ := by
  refine gx_aload_n hx dL_law_1841 rfl ?_
  refine gx_aload_n hx dL_law_1842 rfl ?_
  refine gx_iload hx dL_law_1843 rfl ?_
  refine gx_iconst hx dL_law_1845 ?_
  refine gx_iadd hx dL_law_1846 ?_
  refine gx_sld hx hX dL_law_1847 (by omega) (by omega) (by omega) ?_
  refine gx_aload_n hx dL_law_1848 rfl ?_
  refine gx_callL hx hnc (c_L_distance _ _ hl hC (rg_of _)) lkL_244 mwL_distance dL_law_1849 rfl rfl (Nat.le_of_ble_eq_true rfl) (by omega) ⟨by omega, by omega⟩ (fun z1 σ1 h1 => ?_)
  obtain ⟨n1, v1, A1, rfl, n9, r1, c1, o1, k1⟩ := h1
  have hR1 : MR σ1 A := hR.out (fun k q1 q2 => k1 k q1 (by omega) (by omega))
  refine gx_istore hx dL_law_1852 (Nat.le_of_ble_eq_true rfl) ?_
  refine gx_aload_n hx dL_law_1854 rfl ?_
  refine gx_aload_n hx dL_law_1855 rfl ?_
  refine gx_iload hx dL_law_1856 rfl ?_
  refine gx_iconst hx dL_law_1858 ?_
  refine gx_iadd hx dL_law_1859 ?_
  refine gx_sld hx hX dL_law_1860 (by omega) (by omega) (by omega) ?_
  refine gx_callI hx (c_X9_distance _ _ hR1 (rg_of _)) lkL_246 mwX9_distance dL_law_1861 (by decide) rfl rfl rfl rfl (Nat.le_of_ble_eq_true rfl) (by omega) ⟨by omega, by omega⟩ (fun z2 σ2 h2 => ?_)
  obtain ⟨c2, A2, r2, m2, m3, m4⟩ := h2
  obtain ⟨rfl, rfl, rfl⟩ := (uniq_fn _) _ _ _ _ _ _ r1 r2
  refine gx_istore hx dL_law_1864 (Nat.le_of_ble_eq_true rfl) ?_
  refine gx_aload_n hx dL_law_1866 rfl ?_
  refine gx_callI hx (c_X9_thrown _ _) lkL_139 mwX9_thrown dL_law_1867 (by decide) rfl rfl rfl rfl (Nat.le_of_ble_eq_true rfl) (by omega) ⟨by omega, by omega⟩ (fun z3 σ3 h3 => ?_)
  obtain ⟨rfl, rfl⟩ := h3
  rw [m3]
  refine gx_iload hx dL_law_1870 rfl ?_
  refine gx_icmpS (tgt := 1877) hx dL_law_1872 (by decide) ?_
  refine gx_iload hx dL_law_1877 rfl ?_
  have hend : GJ X (a + 3) (b + 18) 1894 [some (.inr 1040), some (.inr 69), some (.inr 70), some (.inr 81), some (.inr 82), some (.inl (i : Int)), some (.inl (n1 : Int)), some (.inl v1), none] [] σ2 := by
    refine gx_goto (tgt := 2067) hx dL_law_1894 (by decide) ?_
    refine GJ.drop 6 (GJ.drop 7 ?_)
    exact GJ.widen (by omega) (by omega) (kk _ _ (c1.out (fun k hk => m4 k (Or.inl hk))) m2)
  refine gx_if_ne (tgt := 1894) hx dL_law_1879 (by decide) ⟨by omega, by omega⟩ (fun hq => ?_) (fun hq => ?_)
  · exact GJ.widen (by omega) (by omega) hend
  · have hz : σ2 81 0 = (ii v1).toInt := by
      rw [m4 81 (Or.inr (by decide))]
      exact o1 (by omega)
    refine gx_aload_n hx dL_law_1882 rfl ?_
    refine gx_iconst hx dL_law_1883 ?_
    refine gx_lcmpS (tgt := 1894) hx hz dL_law_1884 dL_law_1885 dL_law_1887 dL_law_1888 dL_law_1889 (by decide) rfl ?_
    exact GJ.widen (by omega) (by omega) hend
set_option maxRecDepth 20000 in
set_option maxHeartbeats 1000000 in
theorem law_35 {X : Cx} {h0 mc0 ms0 N i a b : Nat} {xs : Nat → Int32} {σ : Sg} {A : AS} (hx : CX X cL_law RL h0 mc0 ms0) (hh0 : 40 ≤ h0) (hX : LWX X N xs) (hnc : NCS X.2.2.2.2.2.1) (hl : X.2.2.1.stackTraces = false) (hN : N ≤ 1536) (hi : i + 3 ≤ N) (hC : CR σ A) (hR : MR σ A) (ha : a + 3 ≤ mc0) (hb : b + 18 ≤ ms0) (kk : ∀ σ' A', CR σ' A' → MR σ' A' → GJ X (a + 3) (b + 18) 2067 [some (.inr 1040), some (.inr 69), some (.inr 70), some (.inr 81), some (.inr 82), some (.inl (i : Int)), none, none, none] [] σ') : GJ X a b 1897 [some (.inr 1040), some (.inr 69), some (.inr 70), some (.inr 81), some (.inr 82), some (.inl (i : Int)), none, none, none] [] σ := by
  refine gx_aload_n hx dL_law_1897 rfl ?_
  refine gx_callI hx (c_X8_loadsOutOfReach _ _ hC) lkL_247 mwX8_loadsOutOfReach dL_law_1898 (by decide) rfl rfl rfl rfl (Nat.le_of_ble_eq_true rfl) (by omega) ⟨by omega, by omega⟩ (fun z1 σ1 h1 => ?_)
  obtain ⟨A1, r1, c1, e1⟩ := h1
  have hR1 : MR σ1 A := hR.out (fun k k1 _ => e1 k k1)
  refine gx_aload_n hx dL_law_1901 rfl ?_
  refine gx_callI hx (c_X9_loadsOutOfReach _ _ hR1) lkL_250 mwX9_loadsOutOfReach dL_law_1902 (by decide) rfl rfl rfl rfl (Nat.le_of_ble_eq_true rfl) (by omega) ⟨by omega, by omega⟩ (fun z2 σ2 h2 => ?_)
  obtain ⟨c2, A2, r2, m2, m3, m4⟩ := h2
  obtain ⟨rfl, rfl, rfl⟩ := uniq_fn _ _ _ _ _ _ _ r1 r2
  refine gx_icmpS (tgt := 2067) hx dL_law_1905 (by decide) ?_
  exact GJ.widen (by omega) (by omega) (kk _ _ (c1.out (fun k hk => m4 k (Or.inl hk))) m2)
set_option maxRecDepth 20000 in
set_option maxHeartbeats 1000000 in
theorem law_36 {X : Cx} {h0 mc0 ms0 N i a b : Nat} {xs : Nat → Int32} {σ : Sg} {A : AS} (hx : CX X cL_law RL h0 mc0 ms0) (hh0 : 40 ≤ h0) (hX : LWX X N xs) (hnc : NCS X.2.2.2.2.2.1) (hl : X.2.2.1.stackTraces = false) (hN : N ≤ 1536) (hi : i + 3 ≤ N) (hC : CR σ A) (hR : MR σ A) (ha : a + 3 ≤ mc0) (hb : b + 18 ≤ ms0) (kk : ∀ σ' A', CR σ' A' → MR σ' A' → GJ X (a + 3) (b + 18) 2067 [some (.inr 1040), some (.inr 69), some (.inr 70), some (.inr 81), some (.inr 82), some (.inl (i : Int)), none, none, none] [] σ') : GJ X a b 1910 [some (.inr 1040), some (.inr 69), some (.inr 70), some (.inr 81), some (.inr 82), some (.inl (i : Int)), none, none, none] [] σ := by
  refine gx_aload_n hx dL_law_1910 rfl ?_
  refine gx_aload_n hx dL_law_1911 rfl ?_
  refine gx_iload hx dL_law_1912 rfl ?_
  refine gx_iconst hx dL_law_1914 ?_
  refine gx_iadd hx dL_law_1915 ?_
  refine gx_sld hx hX dL_law_1916 (by omega) (by omega) (by omega) ?_
  refine gx_aload_n hx dL_law_1917 rfl ?_
  refine gx_callL hx hnc (c_L_slack _ _ hl hC (rg_of _)) lkL_251 mwL_slack dL_law_1918 rfl rfl (Nat.le_of_ble_eq_true rfl) (by omega) ⟨by omega, by omega⟩ (fun z1 σ1 h1 => ?_)
  obtain ⟨n1, v1, A1, rfl, n9, r1, c1, o1, k1⟩ := h1
  have hR1 : MR σ1 A := hR.out (fun k q1 q2 => k1 k q1 (by omega) (by omega))
  refine gx_istore hx dL_law_1921 (Nat.le_of_ble_eq_true rfl) ?_
  refine gx_aload_n hx dL_law_1923 rfl ?_
  refine gx_aload_n hx dL_law_1924 rfl ?_
  refine gx_iload hx dL_law_1925 rfl ?_
  refine gx_iconst hx dL_law_1927 ?_
  refine gx_iadd hx dL_law_1928 ?_
  refine gx_sld hx hX dL_law_1929 (by omega) (by omega) (by omega) ?_
  refine gx_callI hx (c_X9_slack _ _ hR1 (rg_of _)) lkL_253 mwX9_slack dL_law_1930 (by decide) rfl rfl rfl rfl (Nat.le_of_ble_eq_true rfl) (by omega) ⟨by omega, by omega⟩ (fun z2 σ2 h2 => ?_)
  obtain ⟨c2, A2, r2, m2, m3, m4⟩ := h2
  obtain ⟨rfl, rfl, rfl⟩ := (uniq_slack A _) _ _ _ _ _ _ r1 r2
  refine gx_istore hx dL_law_1933 (Nat.le_of_ble_eq_true rfl) ?_
  refine gx_aload_n hx dL_law_1935 rfl ?_
  refine gx_callI hx (c_X9_thrown _ _) lkL_139 mwX9_thrown dL_law_1936 (by decide) rfl rfl rfl rfl (Nat.le_of_ble_eq_true rfl) (by omega) ⟨by omega, by omega⟩ (fun z3 σ3 h3 => ?_)
  obtain ⟨rfl, rfl⟩ := h3
  rw [m3]
  refine gx_iload hx dL_law_1939 rfl ?_
  refine gx_icmpS (tgt := 1946) hx dL_law_1941 (by decide) ?_
  refine gx_iload hx dL_law_1946 rfl ?_
  have hend : GJ X (a + 3) (b + 18) 1963 [some (.inr 1040), some (.inr 69), some (.inr 70), some (.inr 81), some (.inr 82), some (.inl (i : Int)), some (.inl (n1 : Int)), some (.inl v1), none] [] σ2 := by
    refine gx_goto (tgt := 2067) hx dL_law_1963 (by decide) ?_
    refine GJ.drop 6 (GJ.drop 7 ?_)
    exact GJ.widen (by omega) (by omega) (kk _ _ (c1.out (fun k hk => m4 k (Or.inl hk))) m2)
  refine gx_if_ne (tgt := 1963) hx dL_law_1948 (by decide) ⟨by omega, by omega⟩ (fun hq => ?_) (fun hq => ?_)
  · exact GJ.widen (by omega) (by omega) hend
  · have hz : σ2 81 0 = (ii v1).toInt := by
      rw [m4 81 (Or.inr (by decide))]
      exact o1 (by omega)
    refine gx_aload_n hx dL_law_1951 rfl ?_
    refine gx_iconst hx dL_law_1952 ?_
    refine gx_lcmpS (tgt := 1963) hx hz dL_law_1953 dL_law_1954 dL_law_1956 dL_law_1957 dL_law_1958 (by decide) rfl ?_
    exact GJ.widen (by omega) (by omega) hend
set_option maxRecDepth 20000 in
set_option maxHeartbeats 1000000 in
theorem law_37 {X : Cx} {h0 mc0 ms0 N i a b : Nat} {xs : Nat → Int32} {σ : Sg} {A : AS} (hx : CX X cL_law RL h0 mc0 ms0) (hh0 : 40 ≤ h0) (hX : LWX X N xs) (hnc : NCS X.2.2.2.2.2.1) (hl : X.2.2.1.stackTraces = false) (hN : N ≤ 1536) (hi : i + 3 ≤ N) (hC : CR σ A) (hR : MR σ A) (ha : a + 3 ≤ mc0) (hb : b + 18 ≤ ms0) (kk : ∀ σ' A', CR σ' A' → MR σ' A' → GJ X (a + 3) (b + 18) 2067 [some (.inr 1040), some (.inr 69), some (.inr 70), some (.inr 81), some (.inr 82), some (.inl (i : Int)), none, none, none] [] σ') : GJ X a b 1966 [some (.inr 1040), some (.inr 69), some (.inr 70), some (.inr 81), some (.inr 82), some (.inl (i : Int)), none, none, none] [] σ := by
  refine gx_aload_n hx dL_law_1966 rfl ?_
  refine gx_aload_n hx dL_law_1967 rfl ?_
  refine gx_callL hx hnc (c_L_undo _ _ hl hC) lkL_254 mwL_undo dL_law_1968 rfl rfl (Nat.le_of_ble_eq_true rfl) (by omega) ⟨by omega, by omega⟩ (fun z1 σ1 h1 => ?_)
  obtain ⟨n1, v1, A1, rfl, n9, r1, c1, o1, k1⟩ := h1
  have hR1 : MR σ1 A := hR.out (fun k q1 q2 => k1 k q1 (by omega) (by omega))
  refine gx_istore hx dL_law_1971 (Nat.le_of_ble_eq_true rfl) ?_
  refine gx_aload_n hx dL_law_1973 rfl ?_
  refine gx_callI hx (c_X9_undo _ _ hR1) lkL_256 mwX9_undo dL_law_1974 (by decide) rfl rfl rfl rfl (Nat.le_of_ble_eq_true rfl) (by omega) ⟨by omega, by omega⟩ (fun z2 σ2 h2 => ?_)
  obtain ⟨c2, A2, r2, m2, m3, m4⟩ := h2
  obtain ⟨rfl, rfl, rfl⟩ := (uniq_fn _) _ _ _ _ _ _ r1 r2
  refine gx_istore hx dL_law_1977 (Nat.le_of_ble_eq_true rfl) ?_
  refine gx_aload_n hx dL_law_1979 rfl ?_
  refine gx_callI hx (c_X9_thrown _ _) lkL_139 mwX9_thrown dL_law_1980 (by decide) rfl rfl rfl rfl (Nat.le_of_ble_eq_true rfl) (by omega) ⟨by omega, by omega⟩ (fun z3 σ3 h3 => ?_)
  obtain ⟨rfl, rfl⟩ := h3
  rw [m3]
  refine gx_iload hx dL_law_1983 rfl ?_
  refine gx_icmpS (tgt := 1990) hx dL_law_1985 (by decide) ?_
  refine gx_iload hx dL_law_1990 rfl ?_
  have hend : GJ X (a + 3) (b + 18) 2007 [some (.inr 1040), some (.inr 69), some (.inr 70), some (.inr 81), some (.inr 82), some (.inl (i : Int)), some (.inl (n1 : Int)), some (.inl v1), none] [] σ2 := by
    refine gx_goto (tgt := 2067) hx dL_law_2007 (by decide) ?_
    refine GJ.drop 6 (GJ.drop 7 ?_)
    exact GJ.widen (by omega) (by omega) (kk _ _ (c1.out (fun k hk => m4 k (Or.inl hk))) m2)
  refine gx_if_ne (tgt := 2007) hx dL_law_1992 (by decide) ⟨by omega, by omega⟩ (fun hq => ?_) (fun hq => ?_)
  · exact GJ.widen (by omega) (by omega) hend
  · have hz : σ2 81 0 = (ii v1).toInt := by
      rw [m4 81 (Or.inr (by decide))]
      exact o1 (by omega)
    refine gx_aload_n hx dL_law_1995 rfl ?_
    refine gx_iconst hx dL_law_1996 ?_
    refine gx_lcmpS (tgt := 2007) hx hz dL_law_1997 dL_law_1998 dL_law_2000 dL_law_2001 dL_law_2002 (by decide) rfl ?_
    exact GJ.widen (by omega) (by omega) hend
set_option maxRecDepth 20000 in
set_option maxHeartbeats 1000000 in
theorem law_38 {X : Cx} {h0 mc0 ms0 N i a b : Nat} {xs : Nat → Int32} {σ : Sg} {A : AS} (hx : CX X cL_law RL h0 mc0 ms0) (hh0 : 40 ≤ h0) (hX : LWX X N xs) (hnc : NCS X.2.2.2.2.2.1) (hl : X.2.2.1.stackTraces = false) (hN : N ≤ 1536) (hi : i + 3 ≤ N) (hC : CR σ A) (hR : MR σ A) (ha : a + 3 ≤ mc0) (hb : b + 18 ≤ ms0) (kk : ∀ σ' A', CR σ' A' → MR σ' A' → GJ X (a + 3) (b + 18) 2067 [some (.inr 1040), some (.inr 69), some (.inr 70), some (.inr 81), some (.inr 82), some (.inl (i : Int)), none, none, none] [] σ') : GJ X a b 2010 [some (.inr 1040), some (.inr 69), some (.inr 70), some (.inr 81), some (.inr 82), some (.inl (i : Int)), none, none, none] [] σ := by
  refine gx_aload_n hx dL_law_2010 rfl ?_
  refine gx_callI hx (c_X8_save _ _ hC) lkL_257 mwX8_save dL_law_2011 (by decide) rfl rfl rfl rfl (Nat.le_of_ble_eq_true rfl) (by omega) ⟨by omega, by omega⟩ (fun z1 σ1 h1 => ?_)
  obtain ⟨A1, r1, c1, e1⟩ := h1
  have hR1 : MR σ1 A := hR.out (fun k k1 _ => e1 k k1)
  refine gx_aload_n hx dL_law_2014 rfl ?_
  refine gx_callI hx (c_X9_save _ _ hR1) lkL_260 mwX9_save dL_law_2015 (by decide) rfl rfl rfl rfl (Nat.le_of_ble_eq_true rfl) (by omega) ⟨by omega, by omega⟩ (fun z2 σ2 h2 => ?_)
  obtain ⟨c2, A2, r2, m2, m3, m4⟩ := h2
  obtain ⟨rfl, rfl, rfl⟩ := uniq_fn _ _ _ _ _ _ _ r1 r2
  refine gx_icmpS (tgt := 2067) hx dL_law_2018 (by decide) ?_
  exact GJ.widen (by omega) (by omega) (kk _ _ (c1.out (fun k hk => m4 k (Or.inl hk))) m2)
set_option maxRecDepth 20000 in
set_option maxHeartbeats 1000000 in
theorem law_39 {X : Cx} {h0 mc0 ms0 N i a b : Nat} {xs : Nat → Int32} {σ : Sg} {A : AS} (hx : CX X cL_law RL h0 mc0 ms0) (hh0 : 40 ≤ h0) (hX : LWX X N xs) (hnc : NCS X.2.2.2.2.2.1) (hl : X.2.2.1.stackTraces = false) (hN : N ≤ 1536) (hi : i + 3 ≤ N) (hC : CR σ A) (hR : MR σ A) (ha : a + 3 ≤ mc0) (hb : b + 18 ≤ ms0) (kk : ∀ σ' A', CR σ' A' → MR σ' A' → GJ X (a + 3) (b + 18) 2067 [some (.inr 1040), some (.inr 69), some (.inr 70), some (.inr 81), some (.inr 82), some (.inl (i : Int)), none, none, none] [] σ') : GJ X a b 2023 [some (.inr 1040), some (.inr 69), some (.inr 70), some (.inr 81), some (.inr 82), some (.inl (i : Int)), none, none, none] [] σ := by
  refine gx_aload_n hx dL_law_2023 rfl ?_
  refine gx_aload_n hx dL_law_2024 rfl ?_
  refine gx_callL hx hnc (c_L_restore _ _ hl hC) lkL_261 mwL_restore dL_law_2025 rfl rfl (Nat.le_of_ble_eq_true rfl) (by omega) ⟨by omega, by omega⟩ (fun z1 σ1 h1 => ?_)
  obtain ⟨n1, v1, A1, rfl, n9, r1, c1, o1, k1⟩ := h1
  have hR1 : MR σ1 A := hR.out (fun k q1 q2 => k1 k q1 (by omega) (by omega))
  refine gx_istore hx dL_law_2028 (Nat.le_of_ble_eq_true rfl) ?_
  refine gx_aload_n hx dL_law_2030 rfl ?_
  refine gx_callI hx (c_X9_restore _ _ hR1) lkL_263 mwX9_restore dL_law_2031 (by decide) rfl rfl rfl rfl (Nat.le_of_ble_eq_true rfl) (by omega) ⟨by omega, by omega⟩ (fun z2 σ2 h2 => ?_)
  obtain ⟨c2, A2, r2, m2, m3, m4⟩ := h2
  obtain ⟨rfl, rfl, rfl⟩ := (uniq_fn _) _ _ _ _ _ _ r1 r2
  refine gx_istore hx dL_law_2034 (Nat.le_of_ble_eq_true rfl) ?_
  refine gx_aload_n hx dL_law_2036 rfl ?_
  refine gx_callI hx (c_X9_thrown _ _) lkL_139 mwX9_thrown dL_law_2037 (by decide) rfl rfl rfl rfl (Nat.le_of_ble_eq_true rfl) (by omega) ⟨by omega, by omega⟩ (fun z3 σ3 h3 => ?_)
  obtain ⟨rfl, rfl⟩ := h3
  rw [m3]
  refine gx_iload hx dL_law_2040 rfl ?_
  refine gx_icmpS (tgt := 2047) hx dL_law_2042 (by decide) ?_
  refine gx_iload hx dL_law_2047 rfl ?_
  have hend : GJ X (a + 3) (b + 18) 2064 [some (.inr 1040), some (.inr 69), some (.inr 70), some (.inr 81), some (.inr 82), some (.inl (i : Int)), some (.inl (n1 : Int)), some (.inl v1), none] [] σ2 := by
    refine gx_goto (tgt := 2067) hx dL_law_2064 (by decide) ?_
    refine GJ.drop 6 (GJ.drop 7 ?_)
    exact GJ.widen (by omega) (by omega) (kk _ _ (c1.out (fun k hk => m4 k (Or.inl hk))) m2)
  refine gx_if_ne (tgt := 2064) hx dL_law_2049 (by decide) ⟨by omega, by omega⟩ (fun hq => ?_) (fun hq => ?_)
  · exact GJ.widen (by omega) (by omega) hend
  · have hz : σ2 81 0 = (ii v1).toInt := by
      rw [m4 81 (Or.inr (by decide))]
      exact o1 (by omega)
    refine gx_aload_n hx dL_law_2052 rfl ?_
    refine gx_iconst hx dL_law_2053 ?_
    refine gx_lcmpS (tgt := 2064) hx hz dL_law_2054 dL_law_2055 dL_law_2057 dL_law_2058 dL_law_2059 (by decide) rfl ?_
    exact GJ.widen (by omega) (by omega) hend
