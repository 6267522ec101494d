theorem cls_b {h : HM} (hC : CF h 12) (t : Int) : ClsP h 12 t ↔ ClB (oF (cFs h 12) t) (dF (cFs h 12) (h.I 12 6) (h.I 12 7) (h.I 12 8) t) (h.I 12 3).toNat := by
  have hnf := hC.1
  have hdd : ∀ i, i < (h.I 12 3).toNat → 0 ≤ dDor h 12 t i ∧ dDor h 12 t i ≤ 8 := fun j hj => by
    have := hC.2 (j : Int) (by omega) (by omega)
    rw [show ((j : Int)).toNat = j by omega] at this
    exact dorS_bd (by omega)
  exact (drs_bit (O := dOut h 12 t) (D := dDor h 12 t) (h.I 12 3).toNat hdd).2
theorem cnt_c {P Q : Int → Prop} (e : ∀ t, P t ↔ Q t) (t : Int) (n : Nat) : cntN P t n = cntN Q t n := cntN_congr (fun i _ => e _)
set_option maxRecDepth 100000 in
set_option maxHeartbeats 1000000 in
theorem lc_wheels {G : GX} {R : Room} {Z : ZT} {y : LY} {h : HM} {cs : Nat × Nat} (hY : Lay y) (hi : Inv h) {at_ : Int} (hat : 0 ≤ at_ ∧ at_ + 7 ≤ G.len) (hlen : G.len < 2147483648) (hR : RO R 20 0 0 cs) (kk : ∀ h2, Inv h2 → Go G mL_law R Z y 2060 [some (.ref 8), some (.ref 9), some (.ref 150), some (.int (iZ at_))] [] h2 cs) : Go G mL_law R Z y 1647 [some (.ref 8), some (.ref 9), some (.ref 150), some (.int (iZ at_))] [] h cs := by
  have es := hi.st
  have hw := hi.cw
  have e0 := es.1.1
  have e1 := es.2.1.1
  have e5 := es.2.2.1.1
  have e6 := es.2.2.2
  have w6 := hw.2.2.2.1
  have w9 := hw.2.2.2.2
  have er := hi.rc
  have r1 := scV_r G (at_ + 1)
  have r2 := scV_r G (at_ + 2)
  have r3 := scV_r G (at_ + 3)
  have r4 := scV_r G (at_ + 4)
  have r5 := scV_r G (at_ + 5)
  have r6 := scV_r G (at_ + 6)
  refine g_aload_n dL_law_1647 rfl rfl (g_aload_n dL_law_1648 rfl rfl (g_iload_n dL_law_1649 rfl rfl (g_iconst dL_law_1650 (g_iadd dL_law_1651 (g_sld dL_law_1652 ⟨by omega, by omega, by omega⟩ (g_aload_n dL_law_1653 rfl rfl (g_iload_n dL_law_1654 rfl rfl (g_iconst dL_law_1655 (g_iadd dL_law_1656 (g_sld dL_law_1657 ⟨by omega, by omega, by omega⟩ ?_))))))))))
  refine cv_L_155 (M := mL_law) rfl dL_law_1658 (yo9 hY) hR (Nat.le_of_ble_eq_true rfl) (e_X8_wheels hY r1 r2 hw.S hw.1.1) (kQI fun v1658 hq1658 => ?_)
  refine g_aload_n dL_law_1661 rfl rfl (g_aload_n dL_law_1662 rfl rfl (g_iload_n dL_law_1663 rfl rfl (g_iconst dL_law_1664 (g_iadd dL_law_1665 (g_sld dL_law_1666 ⟨by omega, by omega, by omega⟩ (g_aload_n dL_law_1667 rfl rfl (g_iload_n dL_law_1668 rfl rfl (g_iconst dL_law_1669 (g_iadd dL_law_1670 (g_sld dL_law_1671 ⟨by omega, by omega, by omega⟩ ?_))))))))))
  refine cv_L_158 (M := mL_law) rfl dL_law_1672 (yo150 hY) hR (Nat.le_of_ble_eq_true rfl) (e_X9_wheels hY hi.rf hi.rs r1 r2) (kQI fun v1672 hq1672 => ?_)
  rw [e0, e5] at hq1672
  refine g_ieqS 2060 dL_law_1675 rfl (by (rcases hq1658 with ⟨a1, a2⟩ | ⟨a1, a2⟩ <;> rcases hq1672 with ⟨b1, b2⟩ | ⟨b1, b2⟩ <;> first | exact a2.trans b2.symm | exact absurd b1 a1 | exact absurd a1 b1 | exact WhP.uniq a2 b2)) ?_
  exact kk h hi
set_option maxRecDepth 100000 in
set_option maxHeartbeats 1000000 in
theorem lc_clashes {G : GX} {R : Room} {Z : ZT} {y : LY} {h : HM} {cs : Nat × Nat} (hY : Lay y) (hi : Inv h) {at_ : Int} (hat : 0 ≤ at_ ∧ at_ + 7 ≤ G.len) (hlen : G.len < 2147483648) (hR : RO R 20 0 0 cs) (kk : ∀ h2, Inv h2 → Go G mL_law R Z y 2060 [some (.ref 8), some (.ref 9), some (.ref 150), some (.int (iZ at_))] [] h2 cs) : Go G mL_law R Z y 1228 [some (.ref 8), some (.ref 9), some (.ref 150), some (.int (iZ at_))] [] h cs := by
  have es := hi.st
  have hw := hi.cw
  have e0 := es.1.1
  have e1 := es.2.1.1
  have e5 := es.2.2.1.1
  have e6 := es.2.2.2
  have w6 := hw.2.2.2.1
  have w9 := hw.2.2.2.2
  have er := hi.rc
  have r1 := scV_r G (at_ + 1)
  have r2 := scV_r G (at_ + 2)
  have r3 := scV_r G (at_ + 3)
  have r4 := scV_r G (at_ + 4)
  have r5 := scV_r G (at_ + 5)
  have r6 := scV_r G (at_ + 6)
  refine g_aload_n dL_law_1228 rfl rfl (g_aload_n dL_law_1229 rfl rfl (g_iload_n dL_law_1230 rfl rfl (g_iconst dL_law_1231 (g_iadd dL_law_1232 (g_sld dL_law_1233 ⟨by omega, by omega, by omega⟩ (g_i2l dL_law_1234 (by omega) (g_bipush dL_law_1235 kb32 (g_lshl dL_law_1237 (g_aload_n dL_law_1238 rfl rfl (g_iload_n dL_law_1239 rfl rfl (g_iconst dL_law_1240 ?_)))))))))))
  refine g_iadd dL_law_1241 (g_sld dL_law_1242 ⟨by omega, by omega, by omega⟩ (g_i2l dL_law_1243 (by omega) (c2_L_13 (M := mL_law) rfl dL_law_1244 (g_land dL_law_1247 (g_lor dL_law_1248 (g_aload_n dL_law_1249 rfl rfl (g_iload_n dL_law_1250 rfl rfl (g_iconst dL_law_1251 (g_iadd dL_law_1252 (g_sld dL_law_1253 ⟨by omega, by omega, by omega⟩ ?_))))))))))
  refine cv_L_107 (M := mL_law) rfl dL_law_1254 (yo9 hY) hR (Nat.le_of_ble_eq_true rfl) (e_X8_clashes hY (lOr_r _ _) r3 hw.F (by omega) (by omega) (by omega)) (kQI fun v1254 hq1254 => ?_)
  refine g_aload_n dL_law_1257 rfl rfl (g_aload_n dL_law_1258 rfl rfl (g_iload_n dL_law_1259 rfl rfl (g_iconst dL_law_1260 (g_iadd dL_law_1261 (g_sld dL_law_1262 ⟨by omega, by omega, by omega⟩ (g_i2l dL_law_1263 (by omega) (g_bipush dL_law_1264 kb32 (g_lshl dL_law_1266 (g_aload_n dL_law_1267 rfl rfl (g_iload_n dL_law_1268 rfl rfl (g_iconst dL_law_1269 ?_)))))))))))
  refine g_iadd dL_law_1270 (g_sld dL_law_1271 ⟨by omega, by omega, by omega⟩ (g_i2l dL_law_1272 (by omega) (c2_L_13 (M := mL_law) rfl dL_law_1273 (g_land dL_law_1276 (g_lor dL_law_1277 (g_aload_n dL_law_1278 rfl rfl (g_iload_n dL_law_1279 rfl rfl (g_iconst dL_law_1280 (g_iadd dL_law_1281 (g_sld dL_law_1282 ⟨by omega, by omega, by omega⟩ ?_))))))))))
  refine cv_L_111 (M := mL_law) rfl dL_law_1283 (yo150 hY) hR (Nat.le_of_ble_eq_true rfl) (e_X9_clashes hY hi.rf (by omega) (by omega) (by omega) (lOr_r _ _) r3) (kQI fun v1283 hq1283 => ?_)
  rw [e0, e6.1, e6.2.1, e6.2.2] at hq1283
  refine g_ieqS 2060 dL_law_1286 rfl (by (rcases hq1254 with ⟨a1, a2⟩ | ⟨a1, a2⟩ <;> rcases hq1283 with ⟨b1, b2⟩ | ⟨b1, b2⟩ <;> first | exact a2.trans b2.symm | exact absurd b1 a1 | exact absurd a1 b1 | (rw [a2, b2]; exact cnt_c (cls_b hw.F) _ _))) ?_
  exact kk h hi
set_option maxRecDepth 100000 in
set_option maxHeartbeats 1000000 in
theorem lc_fright {G : GX} {R : Room} {Z : ZT} {y : LY} {h : HM} {cs : Nat × Nat} (hY : Lay y) (hi : Inv h) {at_ : Int} (hat : 0 ≤ at_ ∧ at_ + 7 ≤ G.len) (hlen : G.len < 2147483648) (hR : RO R 20 0 0 cs) (kk : ∀ h2, Inv h2 → Go G mL_law R Z y 2060 [some (.ref 8), some (.ref 9), some (.ref 150), some (.int (iZ at_))] [] h2 cs) : Go G mL_law R Z y 1703 [some (.ref 8), some (.ref 9), some (.ref 150), some (.int (iZ at_))] [] h cs := by
  have es := hi.st
  have hw := hi.cw
  have e0 := es.1.1
  have e1 := es.2.1.1
  have e5 := es.2.2.1.1
  have e6 := es.2.2.2
  have w6 := hw.2.2.2.1
  have w9 := hw.2.2.2.2
  have er := hi.rc
  have r1 := scV_r G (at_ + 1)
  have r2 := scV_r G (at_ + 2)
  have r3 := scV_r G (at_ + 3)
  have r4 := scV_r G (at_ + 4)
  have r5 := scV_r G (at_ + 5)
  have r6 := scV_r G (at_ + 6)
  refine g_aload_n dL_law_1703 rfl rfl (g_aload_n dL_law_1704 rfl rfl (g_iload_n dL_law_1705 rfl rfl (g_iconst dL_law_1706 (g_iadd dL_law_1707 (g_sld dL_law_1708 ⟨by omega, by omega, by omega⟩ (g_aload_n dL_law_1709 rfl rfl (g_iload_n dL_law_1710 rfl rfl (g_iconst dL_law_1711 (g_iadd dL_law_1712 (g_sld dL_law_1713 ⟨by omega, by omega, by omega⟩ (g_i2l dL_law_1714 (by omega) ?_)))))))))))
  refine g_bipush dL_law_1715 kb32 (g_lshl dL_law_1717 (g_aload_n dL_law_1718 rfl rfl (g_iload_n dL_law_1719 rfl rfl (g_iconst dL_law_1720 (g_iadd dL_law_1721 (g_sld dL_law_1722 ⟨by omega, by omega, by omega⟩ (g_i2l dL_law_1723 (by omega) (c2_L_13 (M := mL_law) rfl dL_law_1724 (g_land dL_law_1727 (g_lor dL_law_1728 (g_aload_n dL_law_1729 rfl rfl ?_)))))))))))
  refine g_iload_n dL_law_1730 rfl rfl (g_iconst dL_law_1731 (g_iadd dL_law_1732 (g_sld dL_law_1733 ⟨by omega, by omega, by omega⟩ ?_)))
  refine cv_L_163 (M := mL_law) rfl dL_law_1734 (yo9 hY) hR (Nat.le_of_ble_eq_true rfl) (e_X8_fright hY r1 (lOr_r _ _) r4 hw.F (by omega) (by omega) (by omega) w9) (kQX fun v1734 h1734 hq1734 => ?_)
  have hi1 : Inv h1734 := hi.u hq1734.1
  have q151 : ∀ j, h1734.I 151 j = h.I 151 j := fun j => by rw [(hq1734.1 151 (by omega)).1]
  have hR1 : RF h1734 (cFs h 12) := hi.rf.q q151
  have hS1 : RS h1734 (cSs h 12) := hi.rs.q q151
  have n1 : h1734.I 151 0 = h.I 12 3 := by rw [q151]; exact e0
  have n5 : h1734.I 151 71 = h.I 12 5 := by rw [q151]; exact e5
  have q150 : h1734.I 150 2 = h.I 12 9 := by rw [(hq1734.1 150 (by omega)).1]; exact er
  have m6 : h1734.I 151 68 = h.I 12 6 := by rw [q151]; exact e6.1
  have m7 : h1734.I 151 69 = h.I 12 7 := by rw [q151]; exact e6.2.1
  have m8 : h1734.I 151 70 = h.I 12 8 := by rw [q151]; exact e6.2.2
  refine g_aload_n dL_law_1737 rfl rfl (g_aload_n dL_law_1738 rfl rfl (g_iload_n dL_law_1739 rfl rfl (g_iconst dL_law_1740 (g_iadd dL_law_1741 (g_sld dL_law_1742 ⟨by omega, by omega, by omega⟩ (g_aload_n dL_law_1743 rfl rfl (g_iload_n dL_law_1744 rfl rfl (g_iconst dL_law_1745 (g_iadd dL_law_1746 (g_sld dL_law_1747 ⟨by omega, by omega, by omega⟩ (g_i2l dL_law_1748 (by omega) ?_)))))))))))
  refine g_bipush dL_law_1749 kb32 (g_lshl dL_law_1751 (g_aload_n dL_law_1752 rfl rfl (g_iload_n dL_law_1753 rfl rfl (g_iconst dL_law_1754 (g_iadd dL_law_1755 (g_sld dL_law_1756 ⟨by omega, by omega, by omega⟩ (g_i2l dL_law_1757 (by omega) (c2_L_13 (M := mL_law) rfl dL_law_1758 (g_land dL_law_1761 (g_lor dL_law_1762 (g_aload_n dL_law_1763 rfl rfl ?_)))))))))))
  refine g_iload_n dL_law_1764 rfl rfl (g_iconst dL_law_1765 (g_iadd dL_law_1766 (g_sld dL_law_1767 ⟨by omega, by omega, by omega⟩ ?_)))
  refine cv_L_167 (M := mL_law) rfl dL_law_1768 (yo150 hY) hR (Nat.le_of_ble_eq_true rfl) (e_X9_fright hY hR1 (by omega) (by omega) (by omega) (by omega) r1 (lOr_r _ _) r4) (kQI fun v1768 hq1768 => ?_)
  rw [n1, m6, m7, m8, q150] at hq1768
  refine g_ieqS 2060 dL_law_1771 rfl (by (rcases hq1734.2 with ⟨a1, a2⟩ | ⟨a1, a2⟩ <;> rcases hq1768 with ⟨b1, b2⟩ | ⟨b1, b2⟩ <;> first | exact a2.trans b2.symm | exact absurd b1 a1 | exact absurd a1 b1 | (rw [a2, b2]; refine cnt_c (fun t => (FrgP_E hw.F w9 (by omega) t).trans (by rw [show (((scV G (at_ + 1)).toNat : Nat) : Int) = scV G (at_ + 1) by omega])) _ _))) ?_
  exact kk _ hi1
set_option maxRecDepth 100000 in
set_option maxHeartbeats 1000000 in
theorem lc_stand {G : GX} {R : Room} {Z : ZT} {y : LY} {h : HM} {cs : Nat × Nat} (hY : Lay y) (hi : Inv h) {at_ : Int} (hat : 0 ≤ at_ ∧ at_ + 7 ≤ G.len) (hlen : G.len < 2147483648) (hR : RO R 20 0 0 cs) (kk : ∀ h2, Inv h2 → Go G mL_law R Z y 2060 [some (.ref 8), some (.ref 9), some (.ref 150), some (.int (iZ at_))] [] h2 cs) : Go G mL_law R Z y 1776 [some (.ref 8), some (.ref 9), some (.ref 150), some (.int (iZ at_))] [] h cs := by
  have es := hi.st
  have hw := hi.cw
  have e0 := es.1.1
  have e1 := es.2.1.1
  have e5 := es.2.2.1.1
  have e6 := es.2.2.2
  have w6 := hw.2.2.2.1
  have w9 := hw.2.2.2.2
  have er := hi.rc
  have r1 := scV_r G (at_ + 1)
  have r2 := scV_r G (at_ + 2)
  have r3 := scV_r G (at_ + 3)
  have r4 := scV_r G (at_ + 4)
  have r5 := scV_r G (at_ + 5)
  have r6 := scV_r G (at_ + 6)
  refine g_aload_n dL_law_1776 rfl rfl (g_aload_n dL_law_1777 rfl rfl (g_iload_n dL_law_1778 rfl rfl (g_iconst dL_law_1779 (g_iadd dL_law_1780 (g_sld dL_law_1781 ⟨by omega, by omega, by omega⟩ (g_i2l dL_law_1782 (by omega) (g_bipush dL_law_1783 kb32 (g_lshl dL_law_1785 (g_aload_n dL_law_1786 rfl rfl (g_iload_n dL_law_1787 rfl rfl (g_iconst dL_law_1788 ?_)))))))))))
  refine g_iadd dL_law_1789 (g_sld dL_law_1790 ⟨by omega, by omega, by omega⟩ (g_i2l dL_law_1791 (by omega) (c2_L_13 (M := mL_law) rfl dL_law_1792 (g_land dL_law_1795 (g_lor dL_law_1796 (g_aload_n dL_law_1797 rfl rfl (g_iload_n dL_law_1798 rfl rfl (g_iconst dL_law_1799 (g_iadd dL_law_1800 (g_sld dL_law_1801 ⟨by omega, by omega, by omega⟩ ?_))))))))))
  refine cv_L_168 (M := mL_law) rfl dL_law_1802 (yo9 hY) hR (Nat.le_of_ble_eq_true rfl) (e_X8_stand hY (lOr_r _ _) r3 hw.F (by omega) (by omega) (by omega) w9) (kQX fun v1802 h1802 hq1802 => ?_)
  have hi1 : Inv h1802 := hi.u hq1802.1
  have q151 : ∀ j, h1802.I 151 j = h.I 151 j := fun j => by rw [(hq1802.1 151 (by omega)).1]
  have hR1 : RF h1802 (cFs h 12) := hi.rf.q q151
  have hS1 : RS h1802 (cSs h 12) := hi.rs.q q151
  have n1 : h1802.I 151 0 = h.I 12 3 := by rw [q151]; exact e0
  have n5 : h1802.I 151 71 = h.I 12 5 := by rw [q151]; exact e5
  have q150 : h1802.I 150 2 = h.I 12 9 := by rw [(hq1802.1 150 (by omega)).1]; exact er
  have m6 : h1802.I 151 68 = h.I 12 6 := by rw [q151]; exact e6.1
  have m7 : h1802.I 151 69 = h.I 12 7 := by rw [q151]; exact e6.2.1
  have m8 : h1802.I 151 70 = h.I 12 8 := by rw [q151]; exact e6.2.2
  refine g_aload_n dL_law_1805 rfl rfl (g_aload_n dL_law_1806 rfl rfl (g_iload_n dL_law_1807 rfl rfl (g_iconst dL_law_1808 (g_iadd dL_law_1809 (g_sld dL_law_1810 ⟨by omega, by omega, by omega⟩ (g_i2l dL_law_1811 (by omega) (g_bipush dL_law_1812 kb32 (g_lshl dL_law_1814 (g_aload_n dL_law_1815 rfl rfl (g_iload_n dL_law_1816 rfl rfl (g_iconst dL_law_1817 ?_)))))))))))
  refine g_iadd dL_law_1818 (g_sld dL_law_1819 ⟨by omega, by omega, by omega⟩ (g_i2l dL_law_1820 (by omega) (c2_L_13 (M := mL_law) rfl dL_law_1821 (g_land dL_law_1824 (g_lor dL_law_1825 (g_aload_n dL_law_1826 rfl rfl (g_iload_n dL_law_1827 rfl rfl (g_iconst dL_law_1828 (g_iadd dL_law_1829 (g_sld dL_law_1830 ⟨by omega, by omega, by omega⟩ ?_))))))))))
  refine cv_L_171 (M := mL_law) rfl dL_law_1831 (yo150 hY) hR (Nat.le_of_ble_eq_true rfl) (e_X9_stand hY hR1 (by omega) (by omega) (by omega) (by omega) (lOr_r _ _) r3) (kQI fun v1831 hq1831 => ?_)
  rw [n1, m6, m7, m8, q150] at hq1831
  refine g_ieqS 2060 dL_law_1834 rfl (by (rcases hq1802.2 with ⟨a1, a2⟩ | ⟨a1, a2⟩ <;> rcases hq1831 with ⟨b1, b2⟩ | ⟨b1, b2⟩ <;> first | exact a2.trans b2.symm | exact absurd b1 a1 | exact absurd a1 b1 | exact (a2.congr (fun q q9 => cnt_c (fun t => FrgP_E hw.F w9 q9 t) _ _)).uniq b2)) ?_
  exact kk _ hi1
