set_option maxRecDepth 100000 in
set_option maxHeartbeats 8000000 in
theorem p_X12_readSum {l : Launch} {E : Ez} {L : List Nat} {f : Nat → va_E} {T : Nat → va_E → Prop} {a_0 : Nat} {a_1 : Int32} {q : Nat → Nat} {g_f : Nat → Int32} (hW : WT T L f) (k_0 : isM T L E a_0 q) (e_f : f (q 14) = aI E 2076 g_f) (o_f : FOK g_f) (hPB : 0 ≤ (g_f 5).toInt ∧ (g_f 5).toInt ≤ 150) (hPT : (¬ fld (f a_0) 12 = 0 ∨ 4 * (g_f 5).toInt ≤ fld (f a_0) 9)) (hNX : (¬ fld (f a_0) 12 = 0 ∨ fld (f a_0) 10 = 0 ∨ fld (f a_0) 9 < fld (f a_0) 8)) : CV l yX12_readSum cX12_readSum 3 6 0 0 E [.ref a_0, .int a_1] L f (fun L1 f1 => L = L1 ∧ WT T L f1 ∧ FR [12, 2176] f f1 ∧ (∃ g9 : Nat → Int32, f1 (q 14) = aI E 2076 g9 ∧ FOK g9 ∧ PG g_f g9 ∧ ((g_f 5).toInt ≤ (g9 5).toInt ∧ (g9 5).toInt ≤ 150) ∧ (¬ fld (f1 a_0) 12 = 0 ∨ ((g_f 5).toInt + 1 ≤ (g9 5).toInt ∧ 4 * (g9 5).toInt ≤ fld (f1 a_0) 9 + 3))) ∧ (¬ fld (f1 a_0) 12 = 0 ∨ (fld (f a_0) 12 = 0 ∧ fld (f a_0) 8 ≤ fld (f1 a_0) 9 ∧ fld (f1 a_0) 9 ≤ fld (f1 a_0) 8 ∧ (fld (f1 a_0) 10 = 0 ∨ fld (f1 a_0) 9 < fld (f1 a_0) 8)))) := by
  refine cv_of (by decide) (Nat.le_of_ble_eq_true rfl) (fun z hz hnm hC hR => ?_)
  have hC : Cx z E cX12_readSum RX12 3 6 0 0 := hC
  subst hz
  show V z E 3 0 0 L f 0 [(0, .ref a_0), (1, .int a_1)] []
  obtain ⟨m_1, t_2, nq_21, k_3, k_4, k_5, k_6, k_7, k_8, k_9, k_10, k_11, k_12, k_13, k_14, k_15, k_16, k_17, k_18, k_19, k_20⟩ := id k_0
  obtain ⟨m_22, t_23⟩ := id k_8
  obtain ⟨v_25, v_26, v_27, v_29, v_31, v_33, v_35, v_36, v_37, v_38, v_39, e_24, -, b_28, b_30, b_32, b_34, -, -⟩ := hW.at m_1 t_2
  have mz_40 : fld (f a_0) 8 = v_29.toInt := by rw [e_24]; rfl
  have mz_41 : fld (f a_0) 9 = v_31.toInt := by rw [e_24]; rfl
  have mz_42 : fld (f a_0) 10 = v_33.toInt := by rw [e_24]; rfl
  have mz_43 : fld (f a_0) 12 = v_36.toInt := by rw [e_24]; rfl
  rw [mz_43, mz_41] at hPT
  rw [mz_43, mz_42, mz_41, mz_40] at hNX
  refine v_aload_n hC dX12_readSum_0 rfl ?_
  refine v_iload_n hC dX12_readSum_1 rfl ?_
  have fe_44 : fld (f a_0) 9 = (v_31 : Int32).toInt := by rw [e_24]; rfl
  have fe_45 : fld (f a_0) 12 = (v_36 : Int32).toInt := by rw [e_24]; rfl
  have fe_46 : fld (f a_0) 8 = (v_29 : Int32).toInt := by rw [e_24]; rfl
  have fe_47 : fld (f a_0) 9 = (v_31 : Int32).toInt := by rw [e_24]; rfl
  have fe_48 : fld (f a_0) 10 = (v_33 : Int32).toInt := by rw [e_24]; rfl
  have fe_49 : fld (f a_0) 12 = (v_36 : Int32).toInt := by rw [e_24]; rfl
  refine v_vv hC (rest := []) m_1 e_24 rfl mi_X12_readPart ms_X12_readPart (p_X12_readPart hW k_0 e_f o_f (by first | omega | (simp only [Int32.lt_iff_toInt_lt, Int32.le_iff_toInt_le, Int32.reduceToInt, ← Int32.toInt_inj, true_and, and_true, or_true, true_or, false_or, or_false, false_and, and_false, not_true_eq_false, not_false_eq_true] <;> omega)) (by simp only [fe_44, fe_45]; omega) (by simp only [fe_46, fe_47, fe_48, fe_49]; omega)) mx_X12_readPart ml_X12_260 (by decide) rfl (cells1 := 0) (slots1 := 0) (by decide) (by decide) (Nat.le_of_ble_eq_true rfl) (Nat.le_of_ble_eq_true rfl) rfl (Nat.le_of_ble_eq_true rfl) dX12_readSum_2 (fun L_51 f_52 h_53 => ?_)
  obtain ⟨rfl, hW_56, hF_57, x_54, x_55⟩ := h_53
  have fe_58 : fld (f a_0) 8 = (v_29 : Int32).toInt := by rw [e_24]; rfl
  have fe_59 : fld (f a_0) 9 = (v_31 : Int32).toInt := by rw [e_24]; rfl
  have fe_60 : fld (f a_0) 12 = (v_36 : Int32).toInt := by rw [e_24]; rfl
  obtain ⟨v_62, v_63, v_64, v_66, v_68, v_70, v_72, v_73, v_74, v_75, v_76, e_61, -, b_65, b_67, b_69, b_71, -, -⟩ := hW_56.at m_1 t_2
  have fe_77 : fld (f_52 a_0) 8 = (v_66 : Int32).toInt := by rw [e_61]; rfl
  have fe_78 : fld (f_52 a_0) 9 = (v_68 : Int32).toInt := by rw [e_61]; rfl
  have fe_79 : fld (f_52 a_0) 10 = (v_70 : Int32).toInt := by rw [e_61]; rfl
  have fe_80 : fld (f_52 a_0) 12 = (v_73 : Int32).toInt := by rw [e_61]; rfl
  rw [fe_80] at x_54
  rw [fe_80, fe_60, fe_59, fe_58, fe_78, fe_77, fe_79] at x_55
  clear fe_58 fe_59 fe_60 fe_77 fe_78 fe_79 fe_80
  obtain ⟨g_81, e_82, ok_83, pg_84, bp_85, gs_86⟩ := x_54
  have pg_87 := PG.tr PG.rf pg_84
  have lp_1626 : ∀ (n_1627 : Nat) (f_1622 : Nat → va_E) (hW_1623 : WT T L f_1622) (hF_1624 : FR [12, 2176] f_52 f_1622)  (cv_1625 : ∃ g9 : Nat → Int32, (f_1622 (q 14)) = aI E 2076 g9 ∧ FOK g9 ∧ PG g_f g9 ∧ ((g_f 5).toInt ≤ (g9 5).toInt ∧ (g9 5).toInt ≤ 150) ∧ (¬ fld (f_1622 a_0) 12 = 0 ∨ (v_36.toInt = 0 ∧ (g_f 5).toInt + 1 ≤ (g9 5).toInt ∧ 4 * (g9 5).toInt ≤ fld (f_1622 a_0) 9 + 3 ∧ v_29.toInt ≤ fld (f_1622 a_0) 9 ∧ fld (f_1622 a_0) 9 ≤ fld (f_1622 a_0) 8 ∧ (fld (f_1622 a_0) 10 = 0 ∨ fld (f_1622 a_0) 9 < fld (f_1622 a_0) 8)))) (hm_1629 : gm (f_1622 a_0) < (n_1627 : Int)), V z E 3 0 0 L f_1622 5 [(0, .ref a_0)] [] := by
    intro n_1627
    induction n_1627 with
    | zero =>
      intro f_1622 hW_1623 hF_1624 cv_1625 hm_1629
      obtain ⟨g_1630, e_1631, ok_1632, pg_1633, bp_1634, lo_1635⟩ := cv_1625
      obtain ⟨v_1637, v_1638, v_1639, v_1641, v_1643, v_1645, v_1647, v_1648, v_1649, v_1650, v_1651, e_1636, -, b_1640, b_1642, b_1644, b_1646, -, -⟩ := hW_1623.at m_1 t_2
      have fe_1652 : fld (f_1622 a_0) 8 = (v_1641 : Int32).toInt := by rw [e_1636]; rfl
      have fe_1653 : fld (f_1622 a_0) 9 = (v_1643 : Int32).toInt := by rw [e_1636]; rfl
      have fe_1654 : fld (f_1622 a_0) 10 = (v_1645 : Int32).toInt := by rw [e_1636]; rfl
      have fe_1655 : fld (f_1622 a_0) 12 = (v_1648 : Int32).toInt := by rw [e_1636]; rfl
      rw [fe_1652, fe_1653, fe_1654, fe_1655] at lo_1635
      have gb_1656 := gm_b (f_1622 a_0)
      have fe_1657 : fld (f_1622 a_0) 8 = (v_1641 : Int32).toInt := by rw [e_1636]; rfl
      have fe_1658 : fld (f_1622 a_0) 12 = (v_1648 : Int32).toInt := by rw [e_1636]; rfl
      rw [fe_1657, fe_1658] at gb_1656
      exfalso; omega
    | succ n_1627 ih_1628 =>
      intro f_1622 hW_1623 hF_1624 cv_1625 hm_1629
      obtain ⟨g_1630, e_1631, ok_1632, pg_1633, bp_1634, lo_1635⟩ := cv_1625
      obtain ⟨v_1637, v_1638, v_1639, v_1641, v_1643, v_1645, v_1647, v_1648, v_1649, v_1650, v_1651, e_1636, -, b_1640, b_1642, b_1644, b_1646, -, -⟩ := hW_1623.at m_1 t_2
      have fe_1652 : fld (f_1622 a_0) 8 = (v_1641 : Int32).toInt := by rw [e_1636]; rfl
      have fe_1653 : fld (f_1622 a_0) 9 = (v_1643 : Int32).toInt := by rw [e_1636]; rfl
      have fe_1654 : fld (f_1622 a_0) 10 = (v_1645 : Int32).toInt := by rw [e_1636]; rfl
      have fe_1655 : fld (f_1622 a_0) 12 = (v_1648 : Int32).toInt := by rw [e_1636]; rfl
      rw [fe_1652, fe_1653, fe_1654, fe_1655] at lo_1635
      have gb_1656 := gm_b (f_1622 a_0)
      have fe_1657 : fld (f_1622 a_0) 8 = (v_1641 : Int32).toInt := by rw [e_1636]; rfl
      have fe_1658 : fld (f_1622 a_0) 12 = (v_1648 : Int32).toInt := by rw [e_1636]; rfl
      rw [fe_1657, fe_1658] at gb_1656
      refine v_aload_n hC dX12_readSum_5 rfl ?_
      refine v_ldcwS hC sr_X12_263 dX12_readSum_6 ?_
      refine v_vi hC (rest := []) m_1 e_1636 rfl mi_X12_is ms_X12_is (p_X12_is hW_1623 k_0 (by decide)) mx_X12_is ml_X12_152 (by decide) rfl (cells1 := 0) (slots1 := 0) (by decide) (by decide) (Nat.le_of_ble_eq_true rfl) (Nat.le_of_ble_eq_true rfl) rfl (Nat.le_of_ble_eq_true rfl) dX12_readSum_9 (fun r_1659 L_1660 f_1661 h_1662 => ?_)
      obtain ⟨rfl, rfl, rfl⟩ := h_1662
      refine v_if_ne hC dX12_readSum_12 (tgt := 35) (by decide) (fun h_1665 => ?_) (fun h_1665 => ?_)
      · simp only [Int32.lt_iff_toInt_lt, Int32.le_iff_toInt_le, Int32.reduceToInt, ← Int32.toInt_inj] at h_1665
        have ip_1666 := (iw_b (f_1622 a_0) (f_1622 (q 4)) 64).2.resolve_left (by omega)
        have ln_1667 : ((bytStr.getD 64 []).length : Int) = 4 := by rfl
        have fe_1668 : fld (f_1622 a_0) 8 = (v_1641 : Int32).toInt := by rw [e_1636]; rfl
        have fe_1669 : fld (f_1622 a_0) 9 = (v_1643 : Int32).toInt := by rw [e_1636]; rfl
        have fe_1670 : fld (f_1622 a_0) 10 = (v_1645 : Int32).toInt := by rw [e_1636]; rfl
        have fe_1671 : fld (f_1622 a_0) 12 = (v_1648 : Int32).toInt := by rw [e_1636]; rfl
        rw [fe_1668, fe_1669, fe_1670, fe_1671] at ip_1666
        have g0_1672 := ip_1666.1
        have gp_1673 := lo_1635.resolve_left (fun h9 => h9 g0_1672)
        clear lo_1635
        refine v_aload_n hC dX12_readSum_35 rfl ?_
        refine v_ldcwS hC sr_X12_263 dX12_readSum_36 ?_
        refine v_vi hC (rest := []) m_1 e_1636 rfl mi_X12_is ms_X12_is (p_X12_is hW_1623 k_0 (by decide)) mx_X12_is ml_X12_152 (by decide) rfl (cells1 := 0) (slots1 := 0) (by decide) (by decide) (Nat.le_of_ble_eq_true rfl) (Nat.le_of_ble_eq_true rfl) rfl (Nat.le_of_ble_eq_true rfl) dX12_readSum_39 (fun r_1766 L_1767 f_1768 h_1769 => ?_)
        obtain ⟨rfl, rfl, rfl⟩ := h_1769
        refine v_if_eq_f hC dX12_readSum_42 (tgt := 49) (by decide) (by first | omega | (simp only [Int32.lt_iff_toInt_lt, Int32.le_iff_toInt_le, Int32.reduceToInt, ← Int32.toInt_inj, true_and, and_true, or_true, true_or, false_or, or_false, false_and, and_false, not_true_eq_false, not_false_eq_true] <;> omega)) ?_
        refine v_iconst hC dX12_readSum_45 (v := 1) (by decide) ?_
        refine v_goto hC dX12_readSum_46 (tgt := 64) (by decide) ?_
        refine v_istore_n hC dX12_readSum_64 (by decide) (lv' := [(2, .int 1), (0, .ref a_0)]) rfl ?_
        refine v_aload_n hC dX12_readSum_65 rfl ?_
        refine v_vv hC (rest := []) m_1 e_1636 rfl mi_X12_advance ms_X12_advance (p_X12_advance hW_1623 k_0) mx_X12_advance ml_X12_156 (by decide) rfl (cells1 := 0) (slots1 := 0) (by decide) (by decide) (Nat.le_of_ble_eq_true rfl) (Nat.le_of_ble_eq_true rfl) rfl (Nat.le_of_ble_eq_true rfl) dX12_readSum_66 (fun L_1773 f_1774 h_1775 => ?_)
        obtain ⟨rfl, hW_1779, hF_1780, x_1776, x_1777, x_1778, -⟩ := h_1775
        have fe_1781 : fld (f_1622 a_0) 8 = (v_1641 : Int32).toInt := by rw [e_1636]; rfl
        have fe_1782 : fld (f_1622 a_0) 12 = (v_1648 : Int32).toInt := by rw [e_1636]; rfl
        have hf_1783 := hF_1780.at e_1631 rfl
        obtain ⟨v_1785, v_1786, v_1787, v_1789, v_1791, v_1793, v_1795, v_1796, v_1797, v_1798, v_1799, e_1784, -, b_1788, b_1790, b_1792, b_1794, -, -⟩ := hW_1779.at m_1 t_2
        have fe_1800 : fld (f_1774 a_0) 8 = (v_1789 : Int32).toInt := by rw [e_1784]; rfl
        have fe_1801 : fld (f_1774 a_0) 9 = (v_1791 : Int32).toInt := by rw [e_1784]; rfl
        have fe_1802 : fld (f_1774 a_0) 10 = (v_1793 : Int32).toInt := by rw [e_1784]; rfl
        have fe_1803 : fld (f_1774 a_0) 12 = (v_1796 : Int32).toInt := by rw [e_1784]; rfl
        rw [fe_1781, fe_1801, fe_1800] at x_1776
        rw [fe_1802, fe_1801, fe_1800] at x_1777
        rw [fe_1803, fe_1782] at x_1778
        have g0_1804 := x_1778.trans g0_1672
        clear fe_1781 fe_1782 fe_1800 fe_1801 fe_1802 fe_1803
        refine v_aload_n hC dX12_readSum_69 rfl ?_
        refine v_iload_n hC dX12_readSum_70 rfl ?_
        have fe_1805 : fld (f_1774 a_0) 9 = (v_1791 : Int32).toInt := by rw [e_1784]; rfl
        have fe_1806 : fld (f_1774 a_0) 12 = (v_1796 : Int32).toInt := by rw [e_1784]; rfl
        have fe_1807 : fld (f_1774 a_0) 8 = (v_1789 : Int32).toInt := by rw [e_1784]; rfl
        have fe_1808 : fld (f_1774 a_0) 9 = (v_1791 : Int32).toInt := by rw [e_1784]; rfl
        have fe_1809 : fld (f_1774 a_0) 10 = (v_1793 : Int32).toInt := by rw [e_1784]; rfl
        have fe_1810 : fld (f_1774 a_0) 12 = (v_1796 : Int32).toInt := by rw [e_1784]; rfl
        refine v_vv hC (rest := []) m_1 e_1784 rfl mi_X12_readPart ms_X12_readPart (p_X12_readPart hW_1779 k_0 hf_1783 ok_1632 (by first | omega | (simp only [Int32.lt_iff_toInt_lt, Int32.le_iff_toInt_le, Int32.reduceToInt, ← Int32.toInt_inj, true_and, and_true, or_true, true_or, false_or, or_false, false_and, and_false, not_true_eq_false, not_false_eq_true] <;> omega)) (by simp only [fe_1805, fe_1806]; omega) (by simp only [fe_1807, fe_1808, fe_1809, fe_1810]; omega)) mx_X12_readPart ml_X12_260 (by decide) rfl (cells1 := 0) (slots1 := 0) (by decide) (by decide) (Nat.le_of_ble_eq_true rfl) (Nat.le_of_ble_eq_true rfl) rfl (Nat.le_of_ble_eq_true rfl) dX12_readSum_71 (fun L_1812 f_1813 h_1814 => ?_)
        obtain ⟨rfl, hW_1817, hF_1818, x_1815, x_1816⟩ := h_1814
        have fe_1819 : fld (f_1774 a_0) 8 = (v_1789 : Int32).toInt := by rw [e_1784]; rfl
        have fe_1820 : fld (f_1774 a_0) 9 = (v_1791 : Int32).toInt := by rw [e_1784]; rfl
        have fe_1821 : fld (f_1774 a_0) 12 = (v_1796 : Int32).toInt := by rw [e_1784]; rfl
        obtain ⟨v_1823, v_1824, v_1825, v_1827, v_1829, v_1831, v_1833, v_1834, v_1835, v_1836, v_1837, e_1822, -, b_1826, b_1828, b_1830, b_1832, -, -⟩ := hW_1817.at m_1 t_2
        have fe_1838 : fld (f_1813 a_0) 8 = (v_1827 : Int32).toInt := by rw [e_1822]; rfl
        have fe_1839 : fld (f_1813 a_0) 9 = (v_1829 : Int32).toInt := by rw [e_1822]; rfl
        have fe_1840 : fld (f_1813 a_0) 10 = (v_1831 : Int32).toInt := by rw [e_1822]; rfl
        have fe_1841 : fld (f_1813 a_0) 12 = (v_1834 : Int32).toInt := by rw [e_1822]; rfl
        rw [fe_1841] at x_1815
        rw [fe_1841, fe_1821, fe_1820, fe_1819, fe_1839, fe_1838, fe_1840] at x_1816
        clear fe_1819 fe_1820 fe_1821 fe_1838 fe_1839 fe_1840 fe_1841
        obtain ⟨g_1842, e_1843, ok_1844, pg_1845, bp_1846, gs_1847⟩ := x_1815
        have pg_1848 := PG.tr pg_1633 pg_1845
        refine v_goto hC dX12_readSum_74 (tgt := 5) (by decide) ?_
        refine v_pick [1] rfl ?_
        have fe_1849 : fld (f_1813 a_0) 8 = (v_1827 : Int32).toInt := by rw [e_1822]; rfl
        have fe_1850 : fld (f_1813 a_0) 9 = (v_1829 : Int32).toInt := by rw [e_1822]; rfl
        have fe_1851 : fld (f_1813 a_0) 10 = (v_1831 : Int32).toInt := by rw [e_1822]; rfl
        have fe_1852 : fld (f_1813 a_0) 12 = (v_1834 : Int32).toInt := by rw [e_1822]; rfl
        have gb_1855 := gm_b (f_1813 a_0)
        have fe_1856 : fld (f_1813 a_0) 8 = (v_1827 : Int32).toInt := by rw [e_1822]; rfl
        have fe_1857 : fld (f_1813 a_0) 12 = (v_1834 : Int32).toInt := by rw [e_1822]; rfl
        rw [fe_1856, fe_1857] at gb_1855
        exact ih_1628 f_1813 hW_1817 (((hF_1624.tr hF_1780).tr hF_1818).mono rfl) ⟨_, e_1843, ok_1844, pg_1848, (by omega), (by simp only [fe_1849, fe_1850, fe_1851, fe_1852]; by_cases q9 : (v_1834 : Int32).toInt = 0; have gp_1853 := gs_1847.resolve_left (fun h9 => h9 q9); clear gs_1847; have gp_1854 := x_1816.resolve_left (fun h9 => h9 q9); clear x_1816; (right; omega); exact .inl q9)⟩ (by omega)
      · simp only [Int32.lt_iff_toInt_lt, Int32.le_iff_toInt_le, Int32.reduceToInt, ← Int32.toInt_inj] at h_1665
        refine v_aload_n hC dX12_readSum_15 rfl ?_
        refine v_ldcwS hC sr_X12_265 dX12_readSum_16 ?_
        refine v_vi hC (rest := []) m_1 e_1636 rfl mi_X12_is ms_X12_is (p_X12_is hW_1623 k_0 (by decide)) mx_X12_is ml_X12_152 (by decide) rfl (cells1 := 0) (slots1 := 0) (by decide) (by decide) (Nat.le_of_ble_eq_true rfl) (Nat.le_of_ble_eq_true rfl) rfl (Nat.le_of_ble_eq_true rfl) dX12_readSum_19 (fun r_1858 L_1859 f_1860 h_1861 => ?_)
        obtain ⟨rfl, rfl, rfl⟩ := h_1861
        refine v_if_ne hC dX12_readSum_22 (tgt := 35) (by decide) (fun h_1864 => ?_) (fun h_1864 => ?_)
        · simp only [Int32.lt_iff_toInt_lt, Int32.le_iff_toInt_le, Int32.reduceToInt, ← Int32.toInt_inj] at h_1864
          have ip_1865 := (iw_b (f_1622 a_0) (f_1622 (q 4)) 65).2.resolve_left (by omega)
          have ln_1866 : ((bytStr.getD 65 []).length : Int) = 5 := by rfl
          have fe_1867 : fld (f_1622 a_0) 8 = (v_1641 : Int32).toInt := by rw [e_1636]; rfl
          have fe_1868 : fld (f_1622 a_0) 9 = (v_1643 : Int32).toInt := by rw [e_1636]; rfl
          have fe_1869 : fld (f_1622 a_0) 10 = (v_1645 : Int32).toInt := by rw [e_1636]; rfl
          have fe_1870 : fld (f_1622 a_0) 12 = (v_1648 : Int32).toInt := by rw [e_1636]; rfl
          rw [fe_1867, fe_1868, fe_1869, fe_1870] at ip_1865
          have g0_1871 := ip_1865.1
          have gp_1872 := lo_1635.resolve_left (fun h9 => h9 g0_1871)
          clear lo_1635
          refine v_aload_n hC dX12_readSum_35 rfl ?_
          refine v_ldcwS hC sr_X12_263 dX12_readSum_36 ?_
          refine v_vi hC (rest := []) m_1 e_1636 rfl mi_X12_is ms_X12_is (p_X12_is hW_1623 k_0 (by decide)) mx_X12_is ml_X12_152 (by decide) rfl (cells1 := 0) (slots1 := 0) (by decide) (by decide) (Nat.le_of_ble_eq_true rfl) (Nat.le_of_ble_eq_true rfl) rfl (Nat.le_of_ble_eq_true rfl) dX12_readSum_39 (fun r_1971 L_1972 f_1973 h_1974 => ?_)
          obtain ⟨rfl, rfl, rfl⟩ := h_1974
          refine v_if_eq_t hC dX12_readSum_42 (tgt := 49) (by decide) (by first | omega | (simp only [Int32.lt_iff_toInt_lt, Int32.le_iff_toInt_le, Int32.reduceToInt, ← Int32.toInt_inj, true_and, and_true, or_true, true_or, false_or, or_false, false_and, and_false, not_true_eq_false, not_false_eq_true] <;> omega)) ?_
          refine v_aload_n hC dX12_readSum_49 rfl ?_
          refine v_ldcwS hC sr_X12_265 dX12_readSum_50 ?_
          refine v_vi hC (rest := []) m_1 e_1636 rfl mi_X12_is ms_X12_is (p_X12_is hW_1623 k_0 (by decide)) mx_X12_is ml_X12_152 (by decide) rfl (cells1 := 0) (slots1 := 0) (by decide) (by decide) (Nat.le_of_ble_eq_true rfl) (Nat.le_of_ble_eq_true rfl) rfl (Nat.le_of_ble_eq_true rfl) dX12_readSum_53 (fun r_1977 L_1978 f_1979 h_1980 => ?_)
          obtain ⟨rfl, rfl, rfl⟩ := h_1980
          refine v_if_eq_f hC dX12_readSum_56 (tgt := 63) (by decide) (by first | omega | (simp only [Int32.lt_iff_toInt_lt, Int32.le_iff_toInt_le, Int32.reduceToInt, ← Int32.toInt_inj, true_and, and_true, or_true, true_or, false_or, or_false, false_and, and_false, not_true_eq_false, not_false_eq_true] <;> omega)) ?_
          refine v_iconst hC dX12_readSum_59 (v := 2) (by decide) ?_
          refine v_goto hC dX12_readSum_60 (tgt := 64) (by decide) ?_
          refine v_istore_n hC dX12_readSum_64 (by decide) (lv' := [(2, .int 2), (0, .ref a_0)]) rfl ?_
          refine v_aload_n hC dX12_readSum_65 rfl ?_
          refine v_vv hC (rest := []) m_1 e_1636 rfl mi_X12_advance ms_X12_advance (p_X12_advance hW_1623 k_0) mx_X12_advance ml_X12_156 (by decide) rfl (cells1 := 0) (slots1 := 0) (by decide) (by decide) (Nat.le_of_ble_eq_true rfl) (Nat.le_of_ble_eq_true rfl) rfl (Nat.le_of_ble_eq_true rfl) dX12_readSum_66 (fun L_1984 f_1985 h_1986 => ?_)
          obtain ⟨rfl, hW_1990, hF_1991, x_1987, x_1988, x_1989, -⟩ := h_1986
          have fe_1992 : fld (f_1622 a_0) 8 = (v_1641 : Int32).toInt := by rw [e_1636]; rfl
          have fe_1993 : fld (f_1622 a_0) 12 = (v_1648 : Int32).toInt := by rw [e_1636]; rfl
          have hf_1994 := hF_1991.at e_1631 rfl
          obtain ⟨v_1996, v_1997, v_1998, v_2000, v_2002, v_2004, v_2006, v_2007, v_2008, v_2009, v_2010, e_1995, -, b_1999, b_2001, b_2003, b_2005, -, -⟩ := hW_1990.at m_1 t_2
          have fe_2011 : fld (f_1985 a_0) 8 = (v_2000 : Int32).toInt := by rw [e_1995]; rfl
          have fe_2012 : fld (f_1985 a_0) 9 = (v_2002 : Int32).toInt := by rw [e_1995]; rfl
          have fe_2013 : fld (f_1985 a_0) 10 = (v_2004 : Int32).toInt := by rw [e_1995]; rfl
          have fe_2014 : fld (f_1985 a_0) 12 = (v_2007 : Int32).toInt := by rw [e_1995]; rfl
          rw [fe_1992, fe_2012, fe_2011] at x_1987
          rw [fe_2013, fe_2012, fe_2011] at x_1988
          rw [fe_2014, fe_1993] at x_1989
          have g0_2015 := x_1989.trans g0_1871
          clear fe_1992 fe_1993 fe_2011 fe_2012 fe_2013 fe_2014
          refine v_aload_n hC dX12_readSum_69 rfl ?_
          refine v_iload_n hC dX12_readSum_70 rfl ?_
          have fe_2016 : fld (f_1985 a_0) 9 = (v_2002 : Int32).toInt := by rw [e_1995]; rfl
          have fe_2017 : fld (f_1985 a_0) 12 = (v_2007 : Int32).toInt := by rw [e_1995]; rfl
          have fe_2018 : fld (f_1985 a_0) 8 = (v_2000 : Int32).toInt := by rw [e_1995]; rfl
          have fe_2019 : fld (f_1985 a_0) 9 = (v_2002 : Int32).toInt := by rw [e_1995]; rfl
          have fe_2020 : fld (f_1985 a_0) 10 = (v_2004 : Int32).toInt := by rw [e_1995]; rfl
          have fe_2021 : fld (f_1985 a_0) 12 = (v_2007 : Int32).toInt := by rw [e_1995]; rfl
          refine v_vv hC (rest := []) m_1 e_1995 rfl mi_X12_readPart ms_X12_readPart (p_X12_readPart hW_1990 k_0 hf_1994 ok_1632 (by first | omega | (simp only [Int32.lt_iff_toInt_lt, Int32.le_iff_toInt_le, Int32.reduceToInt, ← Int32.toInt_inj, true_and, and_true, or_true, true_or, false_or, or_false, false_and, and_false, not_true_eq_false, not_false_eq_true] <;> omega)) (by simp only [fe_2016, fe_2017]; omega) (by simp only [fe_2018, fe_2019, fe_2020, fe_2021]; omega)) mx_X12_readPart ml_X12_260 (by decide) rfl (cells1 := 0) (slots1 := 0) (by decide) (by decide) (Nat.le_of_ble_eq_true rfl) (Nat.le_of_ble_eq_true rfl) rfl (Nat.le_of_ble_eq_true rfl) dX12_readSum_71 (fun L_2023 f_2024 h_2025 => ?_)
          obtain ⟨rfl, hW_2028, hF_2029, x_2026, x_2027⟩ := h_2025
          have fe_2030 : fld (f_1985 a_0) 8 = (v_2000 : Int32).toInt := by rw [e_1995]; rfl
          have fe_2031 : fld (f_1985 a_0) 9 = (v_2002 : Int32).toInt := by rw [e_1995]; rfl
          have fe_2032 : fld (f_1985 a_0) 12 = (v_2007 : Int32).toInt := by rw [e_1995]; rfl
          obtain ⟨v_2034, v_2035, v_2036, v_2038, v_2040, v_2042, v_2044, v_2045, v_2046, v_2047, v_2048, e_2033, -, b_2037, b_2039, b_2041, b_2043, -, -⟩ := hW_2028.at m_1 t_2
          have fe_2049 : fld (f_2024 a_0) 8 = (v_2038 : Int32).toInt := by rw [e_2033]; rfl
          have fe_2050 : fld (f_2024 a_0) 9 = (v_2040 : Int32).toInt := by rw [e_2033]; rfl
          have fe_2051 : fld (f_2024 a_0) 10 = (v_2042 : Int32).toInt := by rw [e_2033]; rfl
          have fe_2052 : fld (f_2024 a_0) 12 = (v_2045 : Int32).toInt := by rw [e_2033]; rfl
          rw [fe_2052] at x_2026
          rw [fe_2052, fe_2032, fe_2031, fe_2030, fe_2050, fe_2049, fe_2051] at x_2027
          clear fe_2030 fe_2031 fe_2032 fe_2049 fe_2050 fe_2051 fe_2052
          obtain ⟨g_2053, e_2054, ok_2055, pg_2056, bp_2057, gs_2058⟩ := x_2026
          have pg_2059 := PG.tr pg_1633 pg_2056
          refine v_goto hC dX12_readSum_74 (tgt := 5) (by decide) ?_
          refine v_pick [1] rfl ?_
          have fe_2060 : fld (f_2024 a_0) 8 = (v_2038 : Int32).toInt := by rw [e_2033]; rfl
          have fe_2061 : fld (f_2024 a_0) 9 = (v_2040 : Int32).toInt := by rw [e_2033]; rfl
          have fe_2062 : fld (f_2024 a_0) 10 = (v_2042 : Int32).toInt := by rw [e_2033]; rfl
          have fe_2063 : fld (f_2024 a_0) 12 = (v_2045 : Int32).toInt := by rw [e_2033]; rfl
          have gb_2066 := gm_b (f_2024 a_0)
          have fe_2067 : fld (f_2024 a_0) 8 = (v_2038 : Int32).toInt := by rw [e_2033]; rfl
          have fe_2068 : fld (f_2024 a_0) 12 = (v_2045 : Int32).toInt := by rw [e_2033]; rfl
          rw [fe_2067, fe_2068] at gb_2066
          exact ih_1628 f_2024 hW_2028 (((hF_1624.tr hF_1991).tr hF_2029).mono rfl) ⟨_, e_2054, ok_2055, pg_2059, (by omega), (by simp only [fe_2060, fe_2061, fe_2062, fe_2063]; by_cases q9 : (v_2045 : Int32).toInt = 0; have gp_2064 := gs_2058.resolve_left (fun h9 => h9 q9); clear gs_2058; have gp_2065 := x_2027.resolve_left (fun h9 => h9 q9); clear x_2027; (right; omega); exact .inl q9)⟩ (by omega)
        · simp only [Int32.lt_iff_toInt_lt, Int32.le_iff_toInt_le, Int32.reduceToInt, ← Int32.toInt_inj] at h_1864
          refine v_aload_n hC dX12_readSum_25 rfl ?_
          refine v_ldcwS hC sr_X12_267 dX12_readSum_26 ?_
          refine v_vi hC (rest := []) m_1 e_1636 rfl mi_X12_is ms_X12_is (p_X12_is hW_1623 k_0 (by decide)) mx_X12_is ml_X12_152 (by decide) rfl (cells1 := 0) (slots1 := 0) (by decide) (by decide) (Nat.le_of_ble_eq_true rfl) (Nat.le_of_ble_eq_true rfl) rfl (Nat.le_of_ble_eq_true rfl) dX12_readSum_29 (fun r_2069 L_2070 f_2071 h_2072 => ?_)
          obtain ⟨rfl, rfl, rfl⟩ := h_2072
          refine v_if_eq hC dX12_readSum_32 (tgt := 77) (by decide) (fun h_2075 => ?_) (fun h_2075 => ?_)
          · simp only [Int32.lt_iff_toInt_lt, Int32.le_iff_toInt_le, Int32.reduceToInt, ← Int32.toInt_inj] at h_2075
            have fe_2084 : fld (f_1622 a_0) 9 = (v_1643 : Int32).toInt := by rw [e_1636]; rfl
            have fe_2085 : fld (f_1622 a_0) 12 = (v_1648 : Int32).toInt := by rw [e_1636]; rfl
            have fe_2087 : fld (f_1622 a_0) 8 = (v_1641 : Int32).toInt := by rw [e_1636]; rfl
            have fe_2088 : fld (f_1622 a_0) 9 = (v_1643 : Int32).toInt := by rw [e_1636]; rfl
            have fe_2089 : fld (f_1622 a_0) 10 = (v_1645 : Int32).toInt := by rw [e_1636]; rfl
            have fe_2090 : fld (f_1622 a_0) 12 = (v_1648 : Int32).toInt := by rw [e_1636]; rfl
            exact hR _ _ _ _ _ _ dX12_readSum_77 (Nat.le_of_ble_eq_true rfl) (Nat.le_of_ble_eq_true rfl) ⟨rfl, hW_1623, ((hF_57.tr hF_1624).mono rfl), ⟨_, e_1631, ok_1632, pg_1633, (by omega), (by simp only [fe_2084, fe_2085]; by_cases q9 : (v_1648 : Int32).toInt = 0; have gp_2086 := lo_1635.resolve_left (fun h9 => h9 q9); clear lo_1635; (right; omega); exact .inl q9)⟩, (by simp only [fe_2087, fe_2088, fe_2089, fe_2090, mz_40, mz_43]; by_cases q9 : (v_1648 : Int32).toInt = 0; have gp_2091 := lo_1635.resolve_left (fun h9 => h9 q9); clear lo_1635; (right; omega); exact .inl q9)⟩
          · simp only [Int32.lt_iff_toInt_lt, Int32.le_iff_toInt_le, Int32.reduceToInt, ← Int32.toInt_inj] at h_2075
            have ip_2076 := (iw_b (f_1622 a_0) (f_1622 (q 4)) 66).2.resolve_left (by omega)
            have ln_2077 : ((bytStr.getD 66 []).length : Int) = 5 := by rfl
            have fe_2078 : fld (f_1622 a_0) 8 = (v_1641 : Int32).toInt := by rw [e_1636]; rfl
            have fe_2079 : fld (f_1622 a_0) 9 = (v_1643 : Int32).toInt := by rw [e_1636]; rfl
            have fe_2080 : fld (f_1622 a_0) 10 = (v_1645 : Int32).toInt := by rw [e_1636]; rfl
            have fe_2081 : fld (f_1622 a_0) 12 = (v_1648 : Int32).toInt := by rw [e_1636]; rfl
            rw [fe_2078, fe_2079, fe_2080, fe_2081] at ip_2076
            have g0_2082 := ip_2076.1
            have gp_2083 := lo_1635.resolve_left (fun h9 => h9 g0_2082)
            clear lo_1635
            refine v_aload_n hC dX12_readSum_35 rfl ?_
            refine v_ldcwS hC sr_X12_263 dX12_readSum_36 ?_
            refine v_vi hC (rest := []) m_1 e_1636 rfl mi_X12_is ms_X12_is (p_X12_is hW_1623 k_0 (by decide)) mx_X12_is ml_X12_152 (by decide) rfl (cells1 := 0) (slots1 := 0) (by decide) (by decide) (Nat.le_of_ble_eq_true rfl) (Nat.le_of_ble_eq_true rfl) rfl (Nat.le_of_ble_eq_true rfl) dX12_readSum_39 (fun r_2092 L_2093 f_2094 h_2095 => ?_)
            obtain ⟨rfl, rfl, rfl⟩ := h_2095
            refine v_if_eq_t hC dX12_readSum_42 (tgt := 49) (by decide) (by first | omega | (simp only [Int32.lt_iff_toInt_lt, Int32.le_iff_toInt_le, Int32.reduceToInt, ← Int32.toInt_inj, true_and, and_true, or_true, true_or, false_or, or_false, false_and, and_false, not_true_eq_false, not_false_eq_true] <;> omega)) ?_
            refine v_aload_n hC dX12_readSum_49 rfl ?_
            refine v_ldcwS hC sr_X12_265 dX12_readSum_50 ?_
            refine v_vi hC (rest := []) m_1 e_1636 rfl mi_X12_is ms_X12_is (p_X12_is hW_1623 k_0 (by decide)) mx_X12_is ml_X12_152 (by decide) rfl (cells1 := 0) (slots1 := 0) (by decide) (by decide) (Nat.le_of_ble_eq_true rfl) (Nat.le_of_ble_eq_true rfl) rfl (Nat.le_of_ble_eq_true rfl) dX12_readSum_53 (fun r_2098 L_2099 f_2100 h_2101 => ?_)
            obtain ⟨rfl, rfl, rfl⟩ := h_2101
            refine v_if_eq_t hC dX12_readSum_56 (tgt := 63) (by decide) (by first | omega | (simp only [Int32.lt_iff_toInt_lt, Int32.le_iff_toInt_le, Int32.reduceToInt, ← Int32.toInt_inj, true_and, and_true, or_true, true_or, false_or, or_false, false_and, and_false, not_true_eq_false, not_false_eq_true] <;> omega)) ?_
            refine v_iconst hC dX12_readSum_63 (v := 3) (by decide) ?_
            refine v_istore_n hC dX12_readSum_64 (by decide) (lv' := [(2, .int 3), (0, .ref a_0)]) rfl ?_
            refine v_aload_n hC dX12_readSum_65 rfl ?_
            refine v_vv hC (rest := []) m_1 e_1636 rfl mi_X12_advance ms_X12_advance (p_X12_advance hW_1623 k_0) mx_X12_advance ml_X12_156 (by decide) rfl (cells1 := 0) (slots1 := 0) (by decide) (by decide) (Nat.le_of_ble_eq_true rfl) (Nat.le_of_ble_eq_true rfl) rfl (Nat.le_of_ble_eq_true rfl) dX12_readSum_66 (fun L_2105 f_2106 h_2107 => ?_)
            obtain ⟨rfl, hW_2111, hF_2112, x_2108, x_2109, x_2110, -⟩ := h_2107
            have fe_2113 : fld (f_1622 a_0) 8 = (v_1641 : Int32).toInt := by rw [e_1636]; rfl
            have fe_2114 : fld (f_1622 a_0) 12 = (v_1648 : Int32).toInt := by rw [e_1636]; rfl
            have hf_2115 := hF_2112.at e_1631 rfl
            obtain ⟨v_2117, v_2118, v_2119, v_2121, v_2123, v_2125, v_2127, v_2128, v_2129, v_2130, v_2131, e_2116, -, b_2120, b_2122, b_2124, b_2126, -, -⟩ := hW_2111.at m_1 t_2
            have fe_2132 : fld (f_2106 a_0) 8 = (v_2121 : Int32).toInt := by rw [e_2116]; rfl
            have fe_2133 : fld (f_2106 a_0) 9 = (v_2123 : Int32).toInt := by rw [e_2116]; rfl
            have fe_2134 : fld (f_2106 a_0) 10 = (v_2125 : Int32).toInt := by rw [e_2116]; rfl
            have fe_2135 : fld (f_2106 a_0) 12 = (v_2128 : Int32).toInt := by rw [e_2116]; rfl
            rw [fe_2113, fe_2133, fe_2132] at x_2108
            rw [fe_2134, fe_2133, fe_2132] at x_2109
            rw [fe_2135, fe_2114] at x_2110
            have g0_2136 := x_2110.trans g0_2082
            clear fe_2113 fe_2114 fe_2132 fe_2133 fe_2134 fe_2135
            refine v_aload_n hC dX12_readSum_69 rfl ?_
            refine v_iload_n hC dX12_readSum_70 rfl ?_
            have fe_2137 : fld (f_2106 a_0) 9 = (v_2123 : Int32).toInt := by rw [e_2116]; rfl
            have fe_2138 : fld (f_2106 a_0) 12 = (v_2128 : Int32).toInt := by rw [e_2116]; rfl
            have fe_2139 : fld (f_2106 a_0) 8 = (v_2121 : Int32).toInt := by rw [e_2116]; rfl
            have fe_2140 : fld (f_2106 a_0) 9 = (v_2123 : Int32).toInt := by rw [e_2116]; rfl
            have fe_2141 : fld (f_2106 a_0) 10 = (v_2125 : Int32).toInt := by rw [e_2116]; rfl
            have fe_2142 : fld (f_2106 a_0) 12 = (v_2128 : Int32).toInt := by rw [e_2116]; rfl
            refine v_vv hC (rest := []) m_1 e_2116 rfl mi_X12_readPart ms_X12_readPart (p_X12_readPart hW_2111 k_0 hf_2115 ok_1632 (by first | omega | (simp only [Int32.lt_iff_toInt_lt, Int32.le_iff_toInt_le, Int32.reduceToInt, ← Int32.toInt_inj, true_and, and_true, or_true, true_or, false_or, or_false, false_and, and_false, not_true_eq_false, not_false_eq_true] <;> omega)) (by simp only [fe_2137, fe_2138]; omega) (by simp only [fe_2139, fe_2140, fe_2141, fe_2142]; omega)) mx_X12_readPart ml_X12_260 (by decide) rfl (cells1 := 0) (slots1 := 0) (by decide) (by decide) (Nat.le_of_ble_eq_true rfl) (Nat.le_of_ble_eq_true rfl) rfl (Nat.le_of_ble_eq_true rfl) dX12_readSum_71 (fun L_2144 f_2145 h_2146 => ?_)
            obtain ⟨rfl, hW_2149, hF_2150, x_2147, x_2148⟩ := h_2146
            have fe_2151 : fld (f_2106 a_0) 8 = (v_2121 : Int32).toInt := by rw [e_2116]; rfl
            have fe_2152 : fld (f_2106 a_0) 9 = (v_2123 : Int32).toInt := by rw [e_2116]; rfl
            have fe_2153 : fld (f_2106 a_0) 12 = (v_2128 : Int32).toInt := by rw [e_2116]; rfl
            obtain ⟨v_2155, v_2156, v_2157, v_2159, v_2161, v_2163, v_2165, v_2166, v_2167, v_2168, v_2169, e_2154, -, b_2158, b_2160, b_2162, b_2164, -, -⟩ := hW_2149.at m_1 t_2
            have fe_2170 : fld (f_2145 a_0) 8 = (v_2159 : Int32).toInt := by rw [e_2154]; rfl
            have fe_2171 : fld (f_2145 a_0) 9 = (v_2161 : Int32).toInt := by rw [e_2154]; rfl
            have fe_2172 : fld (f_2145 a_0) 10 = (v_2163 : Int32).toInt := by rw [e_2154]; rfl
            have fe_2173 : fld (f_2145 a_0) 12 = (v_2166 : Int32).toInt := by rw [e_2154]; rfl
            rw [fe_2173] at x_2147
            rw [fe_2173, fe_2153, fe_2152, fe_2151, fe_2171, fe_2170, fe_2172] at x_2148
            clear fe_2151 fe_2152 fe_2153 fe_2170 fe_2171 fe_2172 fe_2173
            obtain ⟨g_2174, e_2175, ok_2176, pg_2177, bp_2178, gs_2179⟩ := x_2147
            have pg_2180 := PG.tr pg_1633 pg_2177
            refine v_goto hC dX12_readSum_74 (tgt := 5) (by decide) ?_
            refine v_pick [1] rfl ?_
            have fe_2181 : fld (f_2145 a_0) 8 = (v_2159 : Int32).toInt := by rw [e_2154]; rfl
            have fe_2182 : fld (f_2145 a_0) 9 = (v_2161 : Int32).toInt := by rw [e_2154]; rfl
            have fe_2183 : fld (f_2145 a_0) 10 = (v_2163 : Int32).toInt := by rw [e_2154]; rfl
            have fe_2184 : fld (f_2145 a_0) 12 = (v_2166 : Int32).toInt := by rw [e_2154]; rfl
            have gb_2187 := gm_b (f_2145 a_0)
            have fe_2188 : fld (f_2145 a_0) 8 = (v_2159 : Int32).toInt := by rw [e_2154]; rfl
            have fe_2189 : fld (f_2145 a_0) 12 = (v_2166 : Int32).toInt := by rw [e_2154]; rfl
            rw [fe_2188, fe_2189] at gb_2187
            exact ih_1628 f_2145 hW_2149 (((hF_1624.tr hF_2112).tr hF_2150).mono rfl) ⟨_, e_2175, ok_2176, pg_2180, (by omega), (by simp only [fe_2181, fe_2182, fe_2183, fe_2184]; by_cases q9 : (v_2166 : Int32).toInt = 0; have gp_2185 := gs_2179.resolve_left (fun h9 => h9 q9); clear gs_2179; have gp_2186 := x_2148.resolve_left (fun h9 => h9 q9); clear x_2148; (right; omega); exact .inl q9)⟩ (by omega)
  refine v_pick [0] rfl ?_
  have fe_2190 : fld (f_52 a_0) 8 = (v_66 : Int32).toInt := by rw [e_61]; rfl
  have fe_2191 : fld (f_52 a_0) 9 = (v_68 : Int32).toInt := by rw [e_61]; rfl
  have fe_2192 : fld (f_52 a_0) 10 = (v_70 : Int32).toInt := by rw [e_61]; rfl
  have fe_2193 : fld (f_52 a_0) 12 = (v_73 : Int32).toInt := by rw [e_61]; rfl
  have gb_2196 := gm_b (f_52 a_0)
  have fe_2197 : fld (f_52 a_0) 8 = (v_66 : Int32).toInt := by rw [e_61]; rfl
  have fe_2198 : fld (f_52 a_0) 12 = (v_73 : Int32).toInt := by rw [e_61]; rfl
  rw [fe_2197, fe_2198] at gb_2196
  exact lp_1626 700 f_52 hW_56 FR.rf ⟨_, e_82, ok_83, pg_87, (by omega), (by simp only [fe_2190, fe_2191, fe_2192, fe_2193]; by_cases q9 : (v_73 : Int32).toInt = 0; have gp_2194 := gs_86.resolve_left (fun h9 => h9 q9); clear gs_86; have gp_2195 := x_55.resolve_left (fun h9 => h9 q9); clear x_55; (right; omega); exact .inl q9)⟩ (by omega)
