theorem dL_law_1833 : decode cL_law 1833 = .ok (.aload_n 1, 1) := by decide +kernel
theorem dL_law_1834 : decode cL_law 1834 = .ok (.aload_n 0, 1) := by decide +kernel
theorem dL_law_1835 : decode cL_law 1835 = .ok (.iload 4, 2) := by decide +kernel
theorem dL_law_1837 : decode cL_law 1837 = .ok (.iconst 1, 1) := by decide +kernel
theorem dL_law_1838 : decode cL_law 1838 = .ok (.iadd, 1) := by decide +kernel
theorem dL_law_1839 : decode cL_law 1839 = .ok (.iaload, 1) := by decide +kernel
theorem dL_law_1840 : decode cL_law 1840 = .ok (.aload_n 0, 1) := by decide +kernel
theorem dL_law_1841 : decode cL_law 1841 = .ok (.iload 4, 2) := by decide +kernel
theorem dL_law_1843 : decode cL_law 1843 = .ok (.iconst 2, 1) := by decide +kernel
theorem dL_law_1844 : decode cL_law 1844 = .ok (.iadd, 1) := by decide +kernel
theorem dL_law_1845 : decode cL_law 1845 = .ok (.iaload, 1) := by decide +kernel
theorem dL_law_1846 : decode cL_law 1846 = .ok (.aload_n 0, 1) := by decide +kernel
theorem dL_law_1847 : decode cL_law 1847 = .ok (.iload 4, 2) := by decide +kernel
theorem dL_law_1849 : decode cL_law 1849 = .ok (.iconst 3, 1) := by decide +kernel
theorem dL_law_1850 : decode cL_law 1850 = .ok (.iadd, 1) := by decide +kernel
theorem dL_law_1851 : decode cL_law 1851 = .ok (.iaload, 1) := by decide +kernel
theorem dL_law_1852 : decode cL_law 1852 = .ok (.aload_n 0, 1) := by decide +kernel
theorem dL_law_1853 : decode cL_law 1853 = .ok (.iload 4, 2) := by decide +kernel
theorem dL_law_1855 : decode cL_law 1855 = .ok (.iconst 4, 1) := by decide +kernel
theorem dL_law_1856 : decode cL_law 1856 = .ok (.iadd, 1) := by decide +kernel
theorem dL_law_1857 : decode cL_law 1857 = .ok (.iaload, 1) := by decide +kernel
theorem dL_law_1858 : decode cL_law 1858 = .ok (.aload_n 3, 1) := by decide +kernel
theorem dL_law_1859 : decode cL_law 1859 = .ok (.invokestatic 195, 3) := by decide +kernel
theorem dL_law_1862 : decode cL_law 1862 = .ok (.istore 5, 2) := by decide +kernel
theorem dL_law_1864 : decode cL_law 1864 = .ok (.aload_n 2, 1) := by decide +kernel
theorem dL_law_1865 : decode cL_law 1865 = .ok (.aload_n 0, 1) := by decide +kernel
theorem dL_law_1866 : decode cL_law 1866 = .ok (.iload 4, 2) := by decide +kernel
theorem dL_law_1868 : decode cL_law 1868 = .ok (.iconst 1, 1) := by decide +kernel
theorem dL_law_1869 : decode cL_law 1869 = .ok (.iadd, 1) := by decide +kernel
theorem dL_law_1870 : decode cL_law 1870 = .ok (.iaload, 1) := by decide +kernel
theorem dL_law_1871 : decode cL_law 1871 = .ok (.aload_n 0, 1) := by decide +kernel
theorem dL_law_1872 : decode cL_law 1872 = .ok (.iload 4, 2) := by decide +kernel
theorem dL_law_1874 : decode cL_law 1874 = .ok (.iconst 2, 1) := by decide +kernel
theorem dL_law_1875 : decode cL_law 1875 = .ok (.iadd, 1) := by decide +kernel
theorem dL_law_1876 : decode cL_law 1876 = .ok (.iaload, 1) := by decide +kernel
theorem dL_law_1877 : decode cL_law 1877 = .ok (.aload_n 0, 1) := by decide +kernel
theorem dL_law_1878 : decode cL_law 1878 = .ok (.iload 4, 2) := by decide +kernel
theorem dL_law_1880 : decode cL_law 1880 = .ok (.iconst 3, 1) := by decide +kernel
theorem dL_law_1881 : decode cL_law 1881 = .ok (.iadd, 1) := by decide +kernel
theorem dL_law_1882 : decode cL_law 1882 = .ok (.iaload, 1) := by decide +kernel
theorem dL_law_1883 : decode cL_law 1883 = .ok (.aload_n 0, 1) := by decide +kernel
theorem dL_law_1884 : decode cL_law 1884 = .ok (.iload 4, 2) := by decide +kernel
theorem dL_law_1886 : decode cL_law 1886 = .ok (.iconst 4, 1) := by decide +kernel
theorem dL_law_1887 : decode cL_law 1887 = .ok (.iadd, 1) := by decide +kernel
theorem dL_law_1888 : decode cL_law 1888 = .ok (.iaload, 1) := by decide +kernel
theorem dL_law_1889 : decode cL_law 1889 = .ok (.invokevirtual 197, 3) := by decide +kernel
theorem dL_law_1892 : decode cL_law 1892 = .ok (.istore 6, 2) := by decide +kernel
theorem dL_law_1894 : decode cL_law 1894 = .ok (.aload_n 2, 1) := by decide +kernel
theorem dL_law_1895 : decode cL_law 1895 = .ok (.invokevirtual 113, 3) := by decide +kernel
theorem dL_law_1898 : decode cL_law 1898 = .ok (.iload 5, 2) := by decide +kernel
theorem dL_law_1900 : decode cL_law 1900 = .ok (.if_icmp .eq 5, 3) := by decide +kernel
theorem dL_law_1905 : decode cL_law 1905 = .ok (.iload 5, 2) := by decide +kernel
theorem dL_law_1907 : decode cL_law 1907 = .ok (.ifCond .ne 15, 3) := by decide +kernel
theorem dL_law_1922 : decode cL_law 1922 = .ok (.goto 274, 3) := by decide +kernel
theorem dL_law_1910 : decode cL_law 1910 = .ok (.aload_n 3, 1) := by decide +kernel
theorem dL_law_1911 : decode cL_law 1911 = .ok (.iconst 0, 1) := by decide +kernel
theorem dL_law_1912 : decode cL_law 1912 = .ok (.laload, 1) := by decide +kernel
theorem dL_law_1913 : decode cL_law 1913 = .ok (.iload 6, 2) := by decide +kernel
theorem dL_law_1915 : decode cL_law 1915 = .ok (.i2l, 1) := by decide +kernel
theorem dL_law_1916 : decode cL_law 1916 = .ok (.lcmp, 1) := by decide +kernel
theorem dL_law_1917 : decode cL_law 1917 = .ok (.ifCond .eq 5, 3) := by decide +kernel
set_option maxRecDepth 100000 in
theorem gl_c_L_wouldChoose : GoodIn lw_tbl (va_wsS RL 195 yL_wouldChoose w_c_L_wouldChoose) := goodIn_app (goodIn_q _ [] [1565, 1566, 82] rfl (by decide +kernel) (by decide +kernel)) (goodIn_ca (goodIn_q (big := lw_tbl) (.codeWith yL_wouldChoose cL_wouldChoose 7 (some .int) [(0, 14, 17, 21), (0, 14, 21, 13)] :: wb_c_L_wouldChoose) [1571, 1218, 1281, 1315, 1284, 1363, 1008, 1230, 836, 874, 878, 589, 593, 438, 597, 128, 649, 653, 657, 661, 580, 442, 445, 448, 452, 465, 714, 786, 572, 762, 758, 745, 935, 508] [1567, 1199, 107, 1215, 1217, 41, 83, 1568, 1569, 1570, 1190, 399, 262, 1278, 1280, 47, 1039, 103, 1313, 1314, 1030, 1282, 1283, 261, 260, 1005, 1006, 1007, 88, 400, 185, 184, 963, 834, 835, 89, 1227, 1229, 43, 1360, 1362, 49, 397, 341, 265, 875, 876, 877, 350, 268, 270, 269, 267, 144, 485, 436, 437, 86, 487, 594, 114, 598, 127, 596, 147, 146, 143, 141, 708, 579, 97, 709, 658, 660, 6, 654, 656, 5, 650, 652, 4, 646, 647, 648, 446, 447, 109, 443, 444, 108, 449, 450, 451, 486, 440, 441, 487, 599, 600, 601, 602, 603, 604, 605, 607, 609, 610, 611, 613, 615, 616, 590, 592, 3, 710, 257, 191, 462, 463, 464, 266, 232, 231, 711, 712, 713, 90, 569, 570, 571, 759, 760, 761, 755, 757, 10, 783, 785, 13, 887, 587, 588, 259, 888, 743, 744, 256, 889, 352, 354, 264, 845, 936, 507, 932, 933, 934, 871, 872, 873, 87, 152, 148, 150, 357, 359, 361, 363, 365, 367, 369, 371, 373, 617, 619, 621, 623, 625, 627, 629, 631, 633, 635, 637, 639, 641, 643, 406, 408, 410, 412, 414, 416, 418, 420, 422, 424, 194, 196, 198, 200, 202, 204, 206, 208, 210, 212, 214, 216, 218, 220, 234, 236, 238, 274, 276, 278, 280, 282, 284, 286, 288, 290, 292, 294, 296, 298, 300] rfl (by decide +kernel) (by decide +kernel)) (goodIn_sub z_atIn zAt_good))
set_option maxRecDepth 100000 in
theorem gl_c_M_wouldChoose : GoodIn lw_tbl (wsV RL 197 RX19 yX19_wouldChoose w_c_M_would) := goodIn_app (goodIn_q _ [] [2173, 2174, 2175, 94] rfl (by decide +kernel) (by decide +kernel)) (goodIn_q (big := lw_tbl) (.code yX19_wouldChoose cX19_wouldChoose 11 (some .int) :: wb_c_M_would) [2176, 1705, 438, 1664, 1668, 1672, 1737, 1759, 1709, 442, 445, 448, 452, 1794, 1724, 2015, 128, 1870, 1875, 2050, 1906, 133, 136, 139, 1714, 1618, 1623] [1638, 144, 1673, 436, 437, 86, 1662, 1663, 94, 1702, 1704, 58, 1635, 1669, 1671, 56, 1665, 1667, 55, 1734, 1736, 61, 1614, 1756, 1758, 63, 446, 447, 109, 443, 444, 108, 143, 449, 450, 451, 1710, 440, 441, 1706, 1708, 59, 1625, 1627, 1725, 1722, 1723, 95, 1791, 1792, 1793, 2104, 2012, 119, 2016, 127, 2023, 2014, 1871, 1872, 115, 1881, 1876, 1877, 1878, 1879, 1880, 1873, 1874, 1867, 1869, 67, 1907, 130, 140, 84, 137, 138, 145, 85, 134, 135, 141, 1908, 132, 1898, 1712, 1713, 1903, 1904, 1905, 1913, 2021, 1915, 1615, 1619, 1624, 1621, 1622, 1989, 1617, 2017, 2019, 2028, 2178, 2048, 2049, 2029, 152, 148, 150, 1629, 1631, 1882, 1884, 1886, 1888, 1890, 2032, 2034, 2036, 2038, 2040, 2042, 2044, 1643, 1645, 1647, 1649, 1651] rfl (by decide +kernel) (by decide +kernel))
set_option maxHeartbeats 4000000 in
set_option maxRecDepth 100000 in
theorem law_case_25 {p : Program} {e : Env} {s : State} {m : MethodId} {below : List Frame} {meth : Method} {c : Code} (l : Launch) {b : Nat} {xs : Nat → Int32} {A : Nat → Prop} {eD eI : Nat} {ad : Nat → Nat} (Z : zLaw l p s m meth c b xs A eD eI ad) (y1 : Int32) (hy1 : xs (1 : Int32).toNatClampNeg = y1) (y2 : Int32) (hy2 : xs (2 : Int32).toNatClampNeg = y2) (y3 : Int32) (hy3 : xs (3 : Int32).toNatClampNeg = y3) (y4 : Int32) (hy4 : xs (4 : Int32).toNatClampNeg = y4) (y5 : Int32) (hy5 : xs (5 : Int32).toNatClampNeg = y5) (y6 : Int32) (hy6 : xs (6 : Int32).toNatClampNeg = y6) (dC : Nat → ClassId) (dI : Nat → Nat → Nat) (hh : Nat) (aexpr : Nat) (achoo : Nat) (ameth : Nat) (aroom : Nat) (anod : Nat) (asort : Nat) (anote : Nat) (amet : Nat) (atold : Nat) (aheld : Nat) (apair : Nat) (astep : Nat) (asize : Nat) (nm : Nat) (nl : Nat) (n1 : Nat) (n2 : Nat) (nf : Nat) (ns : Nat) (nh : Nat) (nk : Nat) (np : Nat) (apsl : Nat) (azsl : Nat) (acand : Nat) (ahint : Nat) (af1 : Nat) (af2 : Nat) (af3 : Nat) (ou : Nat) (mm : Nat) (ms : Nat) (mt : Nat) (mh : Nat) (me : Nat) (ma : Nat) (t0 : Nat) (t1 : Nat) (t2 : Nat) (i0 : Nat) (i1 : Nat) (i2 : Nat) (kI : ClassId) (kL : ClassId) (kO : ClassId) (kT : ClassId) (mo : Int32) (fo : Nat → Int64) {H : Heap} {locs : List Loc} {ls : Array Slot} (hP : va_P (dC, dI) vwCl [(hh, .inr (13, [.ref aexpr, .ref achoo, .ref ameth, .ref aroom, .ref anod, .ref asort, .ref anote, .ref amet, .int 0, .int 1])), (achoo, .inr (3, [.ref aroom, .ref ameth, .ref acand, .ref ahint, .int 0, .int (-1), .int 0, .int 0, .null])), (aroom, .inr (9, [.ref asort, .ref anod, .ref atold, .int 3, .ref aheld, .int 0, .ref apair, .ref astep, .int 0, .int 0, .int (-1), .int 0, .int 0, .ref asize])), (anod, .inr (7, [.ref nm, .ref nl, .ref n1, .ref n2, .ref nf, .ref ns, .ref nh, .ref nk, .ref np, .int 16, .int 0, .int 16, .int 0, .int 0])), (apair, .inr (8, [.ref apsl, .int 0, .int 0])), (asize, .inr (10, [.ref azsl, .int 0])), (anote, .inr (5, [.ref af1, .ref af2, .ref af3, .int 0])), (aexpr, .inr (1, [.int 0, .ref eD, .int 0])), (ameth, .inr (1, [.int 0, .ref eD, .int 0])), (asort, .inr (1, [.int 0, .ref eD, .int 0])), (astep, .inr (1, [.int 0, .ref eD, .int 0])), (atold, .inl (kI, 60, .inl zTold)), (ns, .inl (kL, 1024, .inr (.inl zSec))), (nf, .inl (kL, 1024, .inr (.inl zFir))), (nm, .inl (kI, 12, .inl (fun _ => 0))), (nl, .inl (kI, 12, .inl (fun _ => 0))), (n1, .inl (kI, 12, .inl (fun _ => 0))), (n2, .inl (kI, 12, .inl (fun _ => 0))), (apsl, .inl (kL, 512, .inr (.inl (fun _ => 0)))), (azsl, .inl (kL, 0, .inr (.inl (fun _ => 0)))), (mm, .inr (21, [.int 0, .ref ms, .ref mt, .ref mh, .ref me])), (ms, .inr (1, [.int 0, .ref eD, .int 0])), (mt, .inr (1, [.int mo, .ref ma, .int 3])), (mh, .inr (1, [.int 0, .ref eD, .int 0])), (me, .inr (1, [.int 0, .ref eD, .int 0])), (ma, .inl (kO, 10, .inr (.inr (.inr (.inr (zfT t0 t1 t2)))))), (t0, .inr (18, [.int (-1), .ref i0])), (t1, .inr (18, [.int (-2), .ref i1])), (t2, .inr (18, [.int (-3), .ref i2])), (i0, .inl (kT, 0, .inr (.inr (.inr (.inr (fun _ => none)))))), (i1, .inl (kT, 0, .inr (.inr (.inr (.inr (fun _ => none)))))), (i2, .inl (kT, 0, .inr (.inr (.inr (.inr (fun _ => none)))))), (ou, .inl (kL, 1, .inr (.inl fo)))] H) (hD : va_D A [(hh, .inr (13, [.ref aexpr, .ref achoo, .ref ameth, .ref aroom, .ref anod, .ref asort, .ref anote, .ref amet, .int 0, .int 1])), (achoo, .inr (3, [.ref aroom, .ref ameth, .ref acand, .ref ahint, .int 0, .int (-1), .int 0, .int 0, .null])), (aroom, .inr (9, [.ref asort, .ref anod, .ref atold, .int 3, .ref aheld, .int 0, .ref apair, .ref astep, .int 0, .int 0, .int (-1), .int 0, .int 0, .ref asize])), (anod, .inr (7, [.ref nm, .ref nl, .ref n1, .ref n2, .ref nf, .ref ns, .ref nh, .ref nk, .ref np, .int 16, .int 0, .int 16, .int 0, .int 0])), (apair, .inr (8, [.ref apsl, .int 0, .int 0])), (asize, .inr (10, [.ref azsl, .int 0])), (anote, .inr (5, [.ref af1, .ref af2, .ref af3, .int 0])), (aexpr, .inr (1, [.int 0, .ref eD, .int 0])), (ameth, .inr (1, [.int 0, .ref eD, .int 0])), (asort, .inr (1, [.int 0, .ref eD, .int 0])), (astep, .inr (1, [.int 0, .ref eD, .int 0])), (atold, .inl (kI, 60, .inl zTold)), (ns, .inl (kL, 1024, .inr (.inl zSec))), (nf, .inl (kL, 1024, .inr (.inl zFir))), (nm, .inl (kI, 12, .inl (fun _ => 0))), (nl, .inl (kI, 12, .inl (fun _ => 0))), (n1, .inl (kI, 12, .inl (fun _ => 0))), (n2, .inl (kI, 12, .inl (fun _ => 0))), (apsl, .inl (kL, 512, .inr (.inl (fun _ => 0)))), (azsl, .inl (kL, 0, .inr (.inl (fun _ => 0)))), (mm, .inr (21, [.int 0, .ref ms, .ref mt, .ref mh, .ref me])), (ms, .inr (1, [.int 0, .ref eD, .int 0])), (mt, .inr (1, [.int mo, .ref ma, .int 3])), (mh, .inr (1, [.int 0, .ref eD, .int 0])), (me, .inr (1, [.int 0, .ref eD, .int 0])), (ma, .inl (kO, 10, .inr (.inr (.inr (.inr (zfT t0 t1 t2)))))), (t0, .inr (18, [.int (-1), .ref i0])), (t1, .inr (18, [.int (-2), .ref i1])), (t2, .inr (18, [.int (-3), .ref i2])), (i0, .inl (kT, 0, .inr (.inr (.inr (.inr (fun _ => none)))))), (i1, .inl (kT, 0, .inr (.inr (.inr (.inr (fun _ => none)))))), (i2, .inl (kT, 0, .inr (.inr (.inr (.inr (fun _ => none)))))), (ou, .inl (kL, 1, .inr (.inl fo)))]) (hK : va_K (dC, dI) vwCl [(kI, .int), (kL, .long), (kO, .object "java/lang/Object"), (kT, .object "HornbookModel$Tree")] s) (hS : va_S A s.heap H locs) (hl : lv_has ls 9 [(4, .int 0), (3, .ref ou), (2, .ref mm), (1, .ref hh), (0, .ref b)]) : W p l e room_1 s m #[Value.ref b] below meth c H locs 74 3613 (lw_Z below #[Value.ref b] s) (F0 m 1833 ls []) := by
  obtain ⟨hfl, hx, hb, hr, hml, hown, hts, hX, hbl, hbA, hlocks, hE, hA, hAs, hDc⟩ := id Z
  have in_RJx4a65c := zin_RJx4a65c
  have in_RX1 := zin_RX1
  have in_RX10 := zin_RX10
  have in_RX11 := zin_RX11
  have in_RX16 := zin_RX16
  have in_RX17 := zin_RX17
  have in_RX18 := zin_RX18
  have in_RX19 := zin_RX19
  have in_RX5 := zin_RX5
  have in_RX6 := zin_RX6
  have in_RX7 := zin_RX7
  refine lv_aload_n hx hb dL_law_1833 rfl (lv_at hl 3 rfl) ?_
  refine lv_aload_n hx hb dL_law_1834 rfl (lv_at hl 4 rfl) ?_
  refine lv_iload hx hb dL_law_1835 (lv_at hl 0 rfl) ?_
  refine lv_iconst (v := 1) hx hb dL_law_1837 (by decide) ?_
  refine lv_iadd hx hb dL_law_1838 ?_
  refine z_top (v' := .int 1) (congrArg Value.int (by decide)) ?_
  refine va_sld hx hb hX hbl hbA hS (by unfold vp_in; decide) dL_law_1839 ?_
  refine z_top (v' := .int y1) (congrArg Value.int hy1) ?_
  refine lv_aload_n hx hb dL_law_1840 rfl (lv_at hl 4 rfl) ?_
  refine lv_iload hx hb dL_law_1841 (lv_at hl 0 rfl) ?_
  refine lv_iconst (v := 2) hx hb dL_law_1843 (by decide) ?_
  refine lv_iadd hx hb dL_law_1844 ?_
  refine z_top (v' := .int 2) (congrArg Value.int (by decide)) ?_
  refine va_sld hx hb hX hbl hbA hS (by unfold vp_in; decide) dL_law_1845 ?_
  refine z_top (v' := .int y2) (congrArg Value.int hy2) ?_
  refine lv_aload_n hx hb dL_law_1846 rfl (lv_at hl 4 rfl) ?_
  refine lv_iload hx hb dL_law_1847 (lv_at hl 0 rfl) ?_
  refine lv_iconst (v := 3) hx hb dL_law_1849 (by decide) ?_
  refine lv_iadd hx hb dL_law_1850 ?_
  refine z_top (v' := .int 3) (congrArg Value.int (by decide)) ?_
  refine va_sld hx hb hX hbl hbA hS (by unfold vp_in; decide) dL_law_1851 ?_
  refine z_top (v' := .int y3) (congrArg Value.int hy3) ?_
  refine lv_aload_n hx hb dL_law_1852 rfl (lv_at hl 4 rfl) ?_
  refine lv_iload hx hb dL_law_1853 (lv_at hl 0 rfl) ?_
  refine lv_iconst (v := 4) hx hb dL_law_1855 (by decide) ?_
  refine lv_iadd hx hb dL_law_1856 ?_
  refine z_top (v' := .int 4) (congrArg Value.int (by decide)) ?_
  refine va_sld hx hb hX hbl hbA hS (by unfold vp_in; decide) dL_law_1857 ?_
  refine z_top (v' := .int y4) (congrArg Value.int hy4) ?_
  refine lv_aload_n hx hb dL_law_1858 rfl (lv_at hl 1 rfl) ?_
  refine zx_i (wr := [(asize, .inr (10, [.ref azsl, .int 0])), (anote, .inr (5, [.ref af1, .ref af2, .ref af3, .int 0])), (aexpr, .inr (1, [.int 0, .ref eD, .int 0])), (ameth, .inr (1, [.int 0, .ref eD, .int 0])), (nm, .inl (kI, 12, .inl (fun _ => 0))), (nl, .inl (kI, 12, .inl (fun _ => 0))), (n1, .inl (kI, 12, .inl (fun _ => 0))), (n2, .inl (kI, 12, .inl (fun _ => 0))), (azsl, .inl (kL, 0, .inr (.inl (fun _ => 0)))), (mm, .inr (21, [.int 0, .ref ms, .ref mt, .ref mh, .ref me])), (ms, .inr (1, [.int 0, .ref eD, .int 0])), (mt, .inr (1, [.int mo, .ref ma, .int 3])), (mh, .inr (1, [.int 0, .ref eD, .int 0])), (me, .inr (1, [.int 0, .ref eD, .int 0])), (ma, .inl (kO, 10, .inr (.inr (.inr (.inr (zfT t0 t1 t2)))))), (t0, .inr (18, [.int (-1), .ref i0])), (t1, .inr (18, [.int (-2), .ref i1])), (t2, .inr (18, [.int (-3), .ref i2])), (i0, .inl (kT, 0, .inr (.inr (.inr (.inr (fun _ => none)))))), (i1, .inl (kT, 0, .inr (.inr (.inr (.inr (fun _ => none)))))), (i2, .inl (kT, 0, .inr (.inr (.inr (.inr (fun _ => none))))))]) (vx_runSX (As := [.ref hh, .int y1, .int y2, .int y3, .int y4, .ref ou]) (rest := []) ⟨hx, hb, hml, hown, hts⟩ (c_L_wouldChoose l hfl eD eI ad dC dI H.size hh aexpr achoo ameth aroom anod asort anote amet atold aheld apair astep asize nm nl n1 n2 nf ns nh nk np apsl acand ahint ou kI kL y1 y2 y3 y4 fo) (vx_cwSW 6 hts gl_c_L_wouldChoose rfl rfl rfl (by decide +kernel) ⟨Nat.le_of_ble_eq_true rfl, Nat.le_of_ble_eq_true rfl⟩) (z_preSD (wc := [(hh, .inr (13, [.ref aexpr, .ref achoo, .ref ameth, .ref aroom, .ref anod, .ref asort, .ref anote, .ref amet, .int 0, .int 1])), (achoo, .inr (3, [.ref aroom, .ref ameth, .ref acand, .ref ahint, .int 0, .int (-1), .int 0, .int 0, .null])), (aroom, .inr (9, [.ref asort, .ref anod, .ref atold, .int 3, .ref aheld, .int 0, .ref apair, .ref astep, .int 0, .int 0, .int (-1), .int 0, .int 0, .ref asize])), (atold, .inl (kI, 60, .inl zTold)), (anod, .inr (7, [.ref nm, .ref nl, .ref n1, .ref n2, .ref nf, .ref ns, .ref nh, .ref nk, .ref np, .int 16, .int 0, .int 16, .int 0, .int 0])), (ns, .inl (kL, 1024, .inr (.inl zSec))), (nf, .inl (kL, 1024, .inr (.inl zFir))), (asort, .inr (1, [.int 0, .ref eD, .int 0])), (astep, .inr (1, [.int 0, .ref eD, .int 0])), (apair, .inr (8, [.ref apsl, .int 0, .int 0])), (apsl, .inl (kL, 512, .inr (.inl (fun _ => 0)))), (ou, .inl (kL, 1, .inr (.inl fo)))]) hP hD hK hS hA hE [0, 1, 2, 11, 3, 12, 13, 9, 10, 4, 18, 32] [0, 1] rfl (by decide) rfl hDc) rfl rfl hl.1 rfl (lv_room (Nat.le_of_ble_eq_true rfl)) dL_law_1859 ⟨Nat.le_of_ble_eq_true rfl, Nat.le_of_ble_eq_true rfl⟩) hP hD hK hS hA [0, 1, 2, 11, 3, 12, 13, 9, 10, 4, 18, 32] [5, 6, 7, 8, 14, 15, 16, 17, 19, 20, 21, 22, 23, 24, 25, 26, 27, 28, 29, 30, 31] rfl rfl (by decide) (by decide) (fun E ce q9 H locs hbad hP hD hS h91 h92 h93 => ?_) (fun r_3 u H locs hw_4 hP hD hK hS => ?_)
  · exact absurd hbad id
  obtain ⟨u_1, u_2⟩ := u
  have hP : va_P (dC, dI) vwCl [(asize, .inr (10, [.ref azsl, .int 0])), (anote, .inr (5, [.ref af1, .ref af2, .ref af3, .int 0])), (aexpr, .inr (1, [.int 0, .ref eD, .int 0])), (ameth, .inr (1, [.int 0, .ref eD, .int 0])), (nm, .inl (kI, 12, .inl (fun _ => 0))), (nl, .inl (kI, 12, .inl (fun _ => 0))), (n1, .inl (kI, 12, .inl (fun _ => 0))), (n2, .inl (kI, 12, .inl (fun _ => 0))), (azsl, .inl (kL, 0, .inr (.inl (fun _ => 0)))), (mm, .inr (21, [.int 0, .ref ms, .ref mt, .ref mh, .ref me])), (ms, .inr (1, [.int 0, .ref eD, .int 0])), (mt, .inr (1, [.int mo, .ref ma, .int 3])), (mh, .inr (1, [.int 0, .ref eD, .int 0])), (me, .inr (1, [.int 0, .ref eD, .int 0])), (ma, .inl (kO, 10, .inr (.inr (.inr (.inr (zfT t0 t1 t2)))))), (t0, .inr (18, [.int (-1), .ref i0])), (t1, .inr (18, [.int (-2), .ref i1])), (t2, .inr (18, [.int (-3), .ref i2])), (i0, .inl (kT, 0, .inr (.inr (.inr (.inr (fun _ => none)))))), (i1, .inl (kT, 0, .inr (.inr (.inr (.inr (fun _ => none)))))), (i2, .inl (kT, 0, .inr (.inr (.inr (.inr (fun _ => none)))))), (ou, .inl (kL, 1, .inr (.inl u_2)))] H := hP
  have hD : va_D A [(asize, .inr (10, [.ref azsl, .int 0])), (anote, .inr (5, [.ref af1, .ref af2, .ref af3, .int 0])), (aexpr, .inr (1, [.int 0, .ref eD, .int 0])), (ameth, .inr (1, [.int 0, .ref eD, .int 0])), (nm, .inl (kI, 12, .inl (fun _ => 0))), (nl, .inl (kI, 12, .inl (fun _ => 0))), (n1, .inl (kI, 12, .inl (fun _ => 0))), (n2, .inl (kI, 12, .inl (fun _ => 0))), (azsl, .inl (kL, 0, .inr (.inl (fun _ => 0)))), (mm, .inr (21, [.int 0, .ref ms, .ref mt, .ref mh, .ref me])), (ms, .inr (1, [.int 0, .ref eD, .int 0])), (mt, .inr (1, [.int mo, .ref ma, .int 3])), (mh, .inr (1, [.int 0, .ref eD, .int 0])), (me, .inr (1, [.int 0, .ref eD, .int 0])), (ma, .inl (kO, 10, .inr (.inr (.inr (.inr (zfT t0 t1 t2)))))), (t0, .inr (18, [.int (-1), .ref i0])), (t1, .inr (18, [.int (-2), .ref i1])), (t2, .inr (18, [.int (-3), .ref i2])), (i0, .inl (kT, 0, .inr (.inr (.inr (.inr (fun _ => none)))))), (i1, .inl (kT, 0, .inr (.inr (.inr (.inr (fun _ => none)))))), (i2, .inl (kT, 0, .inr (.inr (.inr (.inr (fun _ => none)))))), (ou, .inl (kL, 1, .inr (.inl u_2)))] := hD
  have hK : va_K (dC, dI) vwCl [(kI, .int), (kL, .long), (kO, .object "java/lang/Object"), (kT, .object "HornbookModel$Tree"), (kL, .long)] s := hK
  have hw_4 : r_3 = u_1 ∧ u_1 = (if y1 < 0 ∨ 2 < y1 then 1 else if ¬ y3 = (-1) ∧ (y3 < 0 ∨ 2 < y3) then 1 else if ¬ y4 = (-1) ∧ (y4 < 0 ∨ 2 < y4) then 1 else if y2 < 0 ∨ 9 < y2 then 2 else if y3 = (-1) ∧ ¬ y4 = (-1) then 2 else if y1 = 2 ∨ y3 = 2 ∨ y4 = 2 then 2 else 0) ∧ (u_1 = 0 → u_2 (0 : Int32).toNatClampNeg = ((-1) : Int32).toInt64) := hw_4
  obtain ⟨hw_4, hp_5, hp_6⟩ := hw_4
  have hw_4 := hw_4.symm
  subst hw_4
  refine lv_istore (lv' := [(5, .int u_1), (4, .int 0), (3, .ref ou), (2, .ref mm), (1, .ref hh), (0, .ref b)]) hx hb dL_law_1862 hl (by decide) rfl (fun ls hl => ?_)
  refine lv_aload_n hx hb dL_law_1864 rfl (lv_at hl 3 rfl) ?_
  refine lv_aload_n hx hb dL_law_1865 rfl (lv_at hl 5 rfl) ?_
  refine lv_iload hx hb dL_law_1866 (lv_at hl 1 rfl) ?_
  refine lv_iconst (v := 1) hx hb dL_law_1868 (by decide) ?_
  refine lv_iadd hx hb dL_law_1869 ?_
  refine z_top (v' := .int 1) (congrArg Value.int (by decide)) ?_
  refine va_sld hx hb hX hbl hbA hS (by unfold vp_in; decide) dL_law_1870 ?_
  refine z_top (v' := .int y1) (congrArg Value.int hy1) ?_
  refine lv_aload_n hx hb dL_law_1871 rfl (lv_at hl 5 rfl) ?_
  refine lv_iload hx hb dL_law_1872 (lv_at hl 1 rfl) ?_
  refine lv_iconst (v := 2) hx hb dL_law_1874 (by decide) ?_
  refine lv_iadd hx hb dL_law_1875 ?_
  refine z_top (v' := .int 2) (congrArg Value.int (by decide)) ?_
  refine va_sld hx hb hX hbl hbA hS (by unfold vp_in; decide) dL_law_1876 ?_
  refine z_top (v' := .int y2) (congrArg Value.int hy2) ?_
  refine lv_aload_n hx hb dL_law_1877 rfl (lv_at hl 5 rfl) ?_
  refine lv_iload hx hb dL_law_1878 (lv_at hl 1 rfl) ?_
  refine lv_iconst (v := 3) hx hb dL_law_1880 (by decide) ?_
  refine lv_iadd hx hb dL_law_1881 ?_
  refine z_top (v' := .int 3) (congrArg Value.int (by decide)) ?_
  refine va_sld hx hb hX hbl hbA hS (by unfold vp_in; decide) dL_law_1882 ?_
  refine z_top (v' := .int y3) (congrArg Value.int hy3) ?_
  refine lv_aload_n hx hb dL_law_1883 rfl (lv_at hl 5 rfl) ?_
  refine lv_iload hx hb dL_law_1884 (lv_at hl 1 rfl) ?_
  refine lv_iconst (v := 4) hx hb dL_law_1886 (by decide) ?_
  refine lv_iadd hx hb dL_law_1887 ?_
  refine z_top (v' := .int 4) (congrArg Value.int (by decide)) ?_
  refine va_sld hx hb hX hbl hbA hS (by unfold vp_in; decide) dL_law_1888 ?_
  refine z_top (v' := .int y4) (congrArg Value.int hy4) ?_
  refine z_i (wr := [(asize, .inr (10, [.ref azsl, .int 0])), (anote, .inr (5, [.ref af1, .ref af2, .ref af3, .int 0])), (aexpr, .inr (1, [.int 0, .ref eD, .int 0])), (ameth, .inr (1, [.int 0, .ref eD, .int 0])), (nm, .inl (kI, 12, .inl (fun _ => 0))), (nl, .inl (kI, 12, .inl (fun _ => 0))), (n1, .inl (kI, 12, .inl (fun _ => 0))), (n2, .inl (kI, 12, .inl (fun _ => 0))), (azsl, .inl (kL, 0, .inr (.inl (fun _ => 0)))), (ou, .inl (kL, 1, .inr (.inl u_2)))]) (va_runV (As := [.int y1, .int y2, .int y3, .int y4]) (rest := []) ⟨hx, hb, hml, hown, hts⟩ (c_M_wouldChoose l eD eI ad dC dI H.size mm ms mt mh me mo ma kO kT t0 t1 t2 i0 i1 i2 0 y1 y2 y3 y4) (cwV 4 hts gl_c_M_wouldChoose rfl rfl rfl (by decide +kernel) ⟨Nat.le_of_ble_eq_true rfl, Nat.le_of_ble_eq_true rfl⟩) (z_preV (wc := [(mm, .inr (21, [.int 0, .ref ms, .ref mt, .ref mh, .ref me])), (ms, .inr (1, [.int 0, .ref eD, .int 0])), (mt, .inr (1, [.int mo, .ref ma, .int 3])), (mh, .inr (1, [.int 0, .ref eD, .int 0])), (me, .inr (1, [.int 0, .ref eD, .int 0])), (ma, .inl (kO, 10, .inr (.inr (.inr (.inr (zfT t0 t1 t2)))))), (t0, .inr (18, [.int (-1), .ref i0])), (t1, .inr (18, [.int (-2), .ref i1])), (t2, .inr (18, [.int (-3), .ref i2])), (i0, .inl (kT, 0, .inr (.inr (.inr (.inr (fun _ => none)))))), (i1, .inl (kT, 0, .inr (.inr (.inr (.inr (fun _ => none)))))), (i2, .inl (kT, 0, .inr (.inr (.inr (.inr (fun _ => none))))))]) hP hD hK hS hA hE [9, 10, 11, 12, 13, 14, 15, 16, 17, 18, 19, 20] [2, 3] rfl (by decide) rfl (ci := 21) (q0 := 0) rfl rfl) rfl rfl hl.1 rfl (lv_room (Nat.le_of_ble_eq_true rfl)) dL_law_1889 ⟨Nat.le_of_ble_eq_true rfl, Nat.le_of_ble_eq_true rfl⟩) hP hD hK hS hA [9, 10, 11, 12, 13, 14, 15, 16, 17, 18, 19, 20] [0, 1, 2, 3, 4, 5, 6, 7, 8, 21] rfl rfl (by decide) (by decide) (fun r_9 u H locs hw_10 hP hD hK hS => ?_)
  obtain ⟨u_7, u_8⟩ := u
  have hP : va_P (dC, dI) vwCl [(asize, .inr (10, [.ref azsl, .int 0])), (anote, .inr (5, [.ref af1, .ref af2, .ref af3, .int 0])), (aexpr, .inr (1, [.int 0, .ref eD, .int 0])), (ameth, .inr (1, [.int 0, .ref eD, .int 0])), (nm, .inl (kI, 12, .inl (fun _ => 0))), (nl, .inl (kI, 12, .inl (fun _ => 0))), (n1, .inl (kI, 12, .inl (fun _ => 0))), (n2, .inl (kI, 12, .inl (fun _ => 0))), (azsl, .inl (kL, 0, .inr (.inl (fun _ => 0)))), (ou, .inl (kL, 1, .inr (.inl u_2))), (mm, .inr (21, [.int u_7, .ref ms, .ref mt, .ref mh, .ref me]))] H := hP
  have hD : va_D A [(asize, .inr (10, [.ref azsl, .int 0])), (anote, .inr (5, [.ref af1, .ref af2, .ref af3, .int 0])), (aexpr, .inr (1, [.int 0, .ref eD, .int 0])), (ameth, .inr (1, [.int 0, .ref eD, .int 0])), (nm, .inl (kI, 12, .inl (fun _ => 0))), (nl, .inl (kI, 12, .inl (fun _ => 0))), (n1, .inl (kI, 12, .inl (fun _ => 0))), (n2, .inl (kI, 12, .inl (fun _ => 0))), (azsl, .inl (kL, 0, .inr (.inl (fun _ => 0)))), (ou, .inl (kL, 1, .inr (.inl u_2))), (mm, .inr (21, [.int u_7, .ref ms, .ref mt, .ref mh, .ref me]))] := hD
  have hK : va_K (dC, dI) vwCl [(kI, .int), (kL, .long), (kO, .object "java/lang/Object"), (kT, .object "HornbookModel$Tree"), (kL, .long)] s := by simpa using hK
  have hw_10 : r_9 = u_8 ∧ u_7 = (if y1 < 0 ∨ 2 < y1 then 1 else if ¬ y3 = (-1) ∧ (y3 < 0 ∨ 2 < y3) then 1 else if ¬ y4 = (-1) ∧ (y4 < 0 ∨ 2 < y4) then 1 else if y2 < 0 ∨ 9 < y2 then 2 else if y3 = (-1) ∧ ¬ y4 = (-1) then 2 else if y1 = 2 ∨ y3 = 2 ∨ y4 = 2 then 2 else 0) ∧ (u_7 = 0 → u_8 = (-1)) := hw_10
  obtain ⟨hw_10, hp_11, hp_12⟩ := hw_10
  have hw_10 := hw_10.symm
  subst hw_10
  refine lv_istore (lv' := [(6, .int u_8), (5, .int u_1), (4, .int 0), (3, .ref ou), (2, .ref mm), (1, .ref hh), (0, .ref b)]) hx hb dL_law_1892 hl (by decide) rfl (fun ls hl => ?_)
  have hk9 : u_1 = u_7 := hp_5.trans hp_11.symm
  subst hk9
  refine lv_aload_n hx hb dL_law_1894 rfl (lv_at hl 4 rfl) ?_
  refine z_i (wr := [(asize, .inr (10, [.ref azsl, .int 0])), (anote, .inr (5, [.ref af1, .ref af2, .ref af3, .int 0])), (aexpr, .inr (1, [.int 0, .ref eD, .int 0])), (ameth, .inr (1, [.int 0, .ref eD, .int 0])), (nm, .inl (kI, 12, .inl (fun _ => 0))), (nl, .inl (kI, 12, .inl (fun _ => 0))), (n1, .inl (kI, 12, .inl (fun _ => 0))), (n2, .inl (kI, 12, .inl (fun _ => 0))), (azsl, .inl (kL, 0, .inr (.inl (fun _ => 0)))), (ou, .inl (kL, 1, .inr (.inl u_2)))]) (va_runV (As := []) (rest := []) ⟨hx, hb, hml, hown, hts⟩ (c_M_thrown l eD eI ad dC dI H.size mm ((.ref ms)) ((.ref mt)) ((.ref mh)) ((.ref me)) u_1) (cwV 0 hts gl_c_M_thrown rfl rfl rfl (by decide +kernel) ⟨Nat.le_of_ble_eq_true rfl, Nat.le_of_ble_eq_true rfl⟩) (z_preV (wc := [(mm, .inr (21, [.int u_1, .ref ms, .ref mt, .ref mh, .ref me]))]) hP hD hK hS hA hE [10] [] rfl (by decide) rfl (ci := 21) (q0 := 0) rfl rfl) rfl rfl hl.1 rfl (lv_room (Nat.le_of_ble_eq_true rfl)) dL_law_1895 ⟨Nat.le_of_ble_eq_true rfl, Nat.le_of_ble_eq_true rfl⟩) hP hD hK hS hA [10] [0, 1, 2, 3, 4, 5, 6, 7, 8, 9] rfl rfl (by decide) (by decide) (fun r_13 u H locs hw_14 hP hD hK hS => ?_)
  obtain ⟨⟩ := u
  have hP : va_P (dC, dI) vwCl [(asize, .inr (10, [.ref azsl, .int 0])), (anote, .inr (5, [.ref af1, .ref af2, .ref af3, .int 0])), (aexpr, .inr (1, [.int 0, .ref eD, .int 0])), (ameth, .inr (1, [.int 0, .ref eD, .int 0])), (nm, .inl (kI, 12, .inl (fun _ => 0))), (nl, .inl (kI, 12, .inl (fun _ => 0))), (n1, .inl (kI, 12, .inl (fun _ => 0))), (n2, .inl (kI, 12, .inl (fun _ => 0))), (azsl, .inl (kL, 0, .inr (.inl (fun _ => 0)))), (ou, .inl (kL, 1, .inr (.inl u_2))), (mm, .inr (21, [.int u_1, .ref ms, .ref mt, .ref mh, .ref me]))] H := hP
  have hD : va_D A [(asize, .inr (10, [.ref azsl, .int 0])), (anote, .inr (5, [.ref af1, .ref af2, .ref af3, .int 0])), (aexpr, .inr (1, [.int 0, .ref eD, .int 0])), (ameth, .inr (1, [.int 0, .ref eD, .int 0])), (nm, .inl (kI, 12, .inl (fun _ => 0))), (nl, .inl (kI, 12, .inl (fun _ => 0))), (n1, .inl (kI, 12, .inl (fun _ => 0))), (n2, .inl (kI, 12, .inl (fun _ => 0))), (azsl, .inl (kL, 0, .inr (.inl (fun _ => 0)))), (ou, .inl (kL, 1, .inr (.inl u_2))), (mm, .inr (21, [.int u_1, .ref ms, .ref mt, .ref mh, .ref me]))] := hD
  have hK : va_K (dC, dI) vwCl [(kI, .int), (kL, .long), (kO, .object "java/lang/Object"), (kT, .object "HornbookModel$Tree"), (kL, .long)] s := by simpa using hK
  have hw_14 : r_13 = u_1 := hw_14
  have hw_14 := hw_14.symm
  subst hw_14
  refine lv_iload hx hb dL_law_1898 (lv_at hl 1 rfl) ?_
  refine lv_icmp_eq (tgt := 1905) hx hb dL_law_1900 (by decide) (fun c_15 => ?_) (fun c_15 => ?_)
  rotate_left
  · exact absurd rfl c_15
  refine lv_iload hx hb dL_law_1905 (lv_at hl 1 rfl) ?_
  refine lv_if_ne (tgt := 1922) hx hb dL_law_1907 (by decide) (fun c_16 => ?_) (fun c_16 => ?_)
  · refine lv_goto (tgt := 2196) hx hb dL_law_1922 (by decide) ?_
    exact law_tail l Z hS (lv_sub hl [2, 6] rfl) (Nat.le_of_ble_eq_true rfl) (Nat.le_of_ble_eq_true rfl)
  · refine lv_aload_n hx hb dL_law_1910 rfl (lv_at hl 3 rfl) ?_
    have hf9 := hp_6 c_16
    have hv9 := hp_12 c_16
    refine lv_iconst (v := 0) hx hb dL_law_1911 (by decide) ?_
    refine va_lald (D := (dC, dI)) hx hb hK hP 9 1 rfl rfl (by unfold vp_in; decide) dL_law_1912 ?_
    refine lv_iload hx hb dL_law_1913 (lv_at hl 0 rfl) ?_
    refine lv_i2l (v := u_8.toInt64) hx hb dL_law_1915 rfl ?_
    refine W.lcmp hx hb dL_law_1916 ?_
    refine z_top (v' := .int 0) (congrArg Value.int (by rw [hf9, hv9]; exact z_cmp0 _)) ?_
    refine lv_if_eq (tgt := 1922) hx hb dL_law_1917 (by decide) (fun c_17 => ?_) (fun c_17 => ?_)
    rotate_left
    · exact absurd (by decide) c_17
    refine lv_goto (tgt := 2196) hx hb dL_law_1922 (by decide) ?_
    exact law_tail l Z hS (lv_sub hl [2, 6] rfl) (Nat.le_of_ble_eq_true rfl) (Nat.le_of_ble_eq_true rfl)
