theorem zplace2 {big ws : List Cond} (pc : List Nat) (hc : ws.filter k2_isCode = pc.filterMap (fun i => big[i]?)) (po : List Nat) (ho : ws.filter (fun w => !k2_isCode w) = po.filterMap (fun i => big[i]?)) : ∀ w ∈ ws, w ∈ big := by
  intro w hw
  by_cases h : k2_isCode w = true
  · have h1 : w ∈ ws.filter k2_isCode := List.mem_filter.mpr ⟨hw, h⟩
    rw [hc] at h1
    obtain ⟨i, -, hi⟩ := List.mem_filterMap.mp h1
    exact List.mem_of_getElem? hi
  · have h1 : w ∈ ws.filter (fun w => !k2_isCode w) := List.mem_filter.mpr ⟨hw, by simp [h]⟩
    rw [ho] at h1
    obtain ⟨i, -, hi⟩ := List.mem_filterMap.mp h1
    exact List.mem_of_getElem? hi
theorem zplace {big ws : List Cond} (ps : List Nat) (hp : ws = ps.filterMap (fun i => big[i]?)) : ∀ w ∈ ws, w ∈ big := by
  intro w hw
  rw [hp] at hw
  obtain ⟨i, -, hi⟩ := List.mem_filterMap.mp hw
  exact List.mem_of_getElem? hi
set_option maxRecDepth 20000 in
theorem zin_wsL_law_r1 : ∀ w ∈ wsL_law_r1, w ∈ lw_tbl := zplace2 [148, 151] rfl [144, 145, 126, 1338, 1339, 142, 146, 147, 149, 150, 242, 625, 243, 627, 152, 153, 127, 628, 259, 260, 133, 629] (by decide +kernel)
set_option maxRecDepth 20000 in
theorem zin_wsL_law_r2 : ∀ w ∈ wsL_law_r2, w ∈ lw_tbl := zplace2 [] rfl [630, 631, 632, 437, 438, 137, 633, 634, 458, 364, 136, 635, 460, 461, 138, 636, 518, 519, 139, 637, 582, 583, 140, 638] (by decide +kernel)
set_option maxRecDepth 20000 in
theorem zin_wsL_law_r3 : ∀ w ∈ wsL_law_r3, w ∈ lw_tbl := zplace2 [156, 162, 168] rfl [610, 611, 141, 639, 640, 155, 157, 158, 159, 128, 244, 248, 160, 161, 163, 213, 214, 165, 166, 167, 129] (by decide +kernel)
set_option maxRecDepth 20000 in
theorem zin_wsL_law_r4 : ∀ w ∈ wsL_law_r4, w ∈ lw_tbl := zplace2 [172, 178, 182, 185, 188] rfl [2067, 169, 170, 171, 173, 2068, 175, 176, 177, 179, 180, 181, 183, 184, 130, 186, 187, 189, 191] (by decide +kernel)
set_option maxRecDepth 20000 in
theorem zin_wsL_law_r5 : ∀ w ∈ wsL_law_r5, w ∈ lw_tbl := zplace2 [193, 196, 199, 202, 206, 263] rfl [192, 131, 194, 195, 132, 197, 198, 200, 201, 203, 204, 205, 207, 209, 211, 262, 264, 391] (by decide +kernel)
set_option maxRecDepth 20000 in
theorem zin_wsL_law_r6 : ∀ w ∈ wsL_law_r6, w ∈ lw_tbl := zplace2 [269] rfl [393, 395, 397, 265, 266, 134, 402, 327, 328, 135, 409, 363, 414, 268, 270, 284, 286, 292, 295, 300, 302, 304, 305] (by decide +kernel)
set_option maxRecDepth 20000 in
theorem zin_wsL_law_r7 : ∀ w ∈ wsL_law_r7, w ∈ lw_tbl := zplace2 [331, 367, 441, 464] rfl [330, 332, 342, 346, 349, 366, 368, 384, 369, 372, 385, 375, 440, 442, 443, 463, 465, 466, 468, 469] (by decide +kernel)
set_option maxRecDepth 20000 in
theorem zin_wsL_law_r8 : ∀ w ∈ wsL_law_r8, w ∈ lw_tbl := zplace2 [522, 586] rfl [472, 473, 476, 480, 483, 485, 487, 521, 523, 524, 526, 527, 530, 531, 532, 533, 535, 545, 547, 585, 587, 588] (by decide +kernel)
set_option maxRecDepth 20000 in
theorem zin_wsL_law_r9 : ∀ w ∈ wsL_law_r9, w ∈ lw_tbl := zplace2 [614, 1342] rfl [592, 590, 593, 594, 595, 597, 613, 615, 616, 618, 1340, 1341, 1343, 1344, 1345, 1346, 1347, 1348, 1349, 1350, 1351, 1352] (by decide +kernel)
set_option maxRecDepth 20000 in
theorem zin_wsL_law_r10 : ∀ w ∈ wsL_law_r10, w ∈ lw_tbl := zplace2 [] rfl [1353, 1354, 1355, 1356, 1357, 1358, 1359, 1360, 1361, 1362, 1363, 1364, 1365, 1366, 1367, 1368, 1369, 1370, 1371, 1372, 1373, 1374, 1375, 1376] (by decide +kernel)
set_option maxRecDepth 20000 in
theorem zin_wsL_law_r11 : ∀ w ∈ wsL_law_r11, w ∈ lw_tbl := zplace2 [] rfl [1377, 1378, 1379, 1380, 1381, 1382, 1383, 1384, 1385, 1386, 1387, 1388, 1389, 1390, 1391, 1392, 1393, 1394, 1395, 1396, 1397, 1398, 1399, 1400] (by decide +kernel)
set_option maxRecDepth 20000 in
theorem zin_wsL_law_r12 : ∀ w ∈ wsL_law_r12, w ∈ lw_tbl := zplace2 [677, 681, 685] rfl [1401, 1402, 1403, 1404, 1405, 1406, 1407, 1408, 1409, 1410, 674, 675, 676, 626, 678, 680, 0, 682, 684, 1, 1546] (by decide +kernel)
set_option maxRecDepth 20000 in
theorem zin_wsL_law_r13 : ∀ w ∈ wsL_law_r13, w ∈ lw_tbl := zplace2 [1549, 1553, 1557, 689, 1561, 1565] rfl [1547, 1548, 1550, 1552, 44, 1554, 1556, 45, 686, 687, 688, 1558, 1559, 1560, 1562, 1564, 46, 690] (by decide +kernel)
set_option maxRecDepth 20000 in
theorem zin_wsL_law_r14 : ∀ w ∈ wsL_law_r14, w ∈ lw_tbl := zplace2 [693, 697, 701] rfl [691, 692, 413, 408, 280, 694, 695, 696, 246, 218, 387, 405, 277, 698, 699, 700, 386, 399, 275, 281, 702] (by decide +kernel)
set_option maxRecDepth 20000 in
theorem zin_wsL_law_r15 : ∀ w ∈ wsL_law_r15, w ∈ lw_tbl := zplace2 [705, 708, 711, 715, 718] rfl [703, 704, 706, 707, 143, 709, 710, 215, 216, 217, 712, 713, 714, 219, 221, 223, 716, 717, 719] (by decide +kernel)
set_option maxRecDepth 20000 in
theorem zin_wsL_law_r16 : ∀ w ∈ wsL_law_r16, w ∈ lw_tbl := zplace2 [722, 726, 730, 733, 737, 740] rfl [721, 2, 723, 725, 3, 727, 729, 4, 224, 220, 731, 732, 734, 736, 5, 738, 739, 741] (by decide +kernel)
set_option maxRecDepth 20000 in
theorem zin_wsL_law_r17 : ∀ w ∈ wsL_law_r17, w ∈ lw_tbl := zplace2 [745, 749, 753, 757, 761] rfl [742, 744, 6, 245, 770, 779, 746, 748, 7, 222, 750, 751, 752, 754, 755, 756, 758, 759, 760] (by decide +kernel)
set_option maxRecDepth 20000 in
theorem zin_wsL_law_r18 : ∀ w ∈ wsL_law_r18, w ∈ lw_tbl := zplace2 [765, 769, 774, 778, 783] rfl [271, 762, 764, 8, 766, 767, 768, 771, 773, 9, 775, 776, 777, 780, 781, 782, 784, 786, 10] (by decide +kernel)
set_option maxRecDepth 20000 in
theorem zin_wsL_law_r19 : ∀ w ∈ wsL_law_r19, w ∈ lw_tbl := zplace2 [787, 791, 797, 801, 805] rfl [401, 788, 790, 11, 792, 793, 794, 795, 796, 798, 799, 800, 806, 282, 802, 804, 12, 807, 809] (by decide +kernel)
set_option maxRecDepth 20000 in
theorem zin_wsL_law_r20 : ∀ w ∈ wsL_law_r20, w ∈ lw_tbl := zplace2 [810, 814, 818, 822, 827, 831] rfl [13, 811, 813, 14, 815, 817, 15, 823, 819, 821, 16, 824, 826, 17, 828, 830, 18, 832] (by decide +kernel)
set_option maxRecDepth 20000 in
theorem zin_wsL_law_r21 : ∀ w ∈ wsL_law_r21, w ∈ lw_tbl := zplace2 [835, 839, 843, 847, 851, 855] rfl [833, 834, 836, 838, 19, 840, 841, 842, 844, 846, 20, 848, 849, 850, 852, 853, 854, 856] (by decide +kernel)
set_option maxRecDepth 20000 in
theorem zin_wsL_law_r22 : ∀ w ∈ wsL_law_r22, w ∈ lw_tbl := zplace2 [859, 863, 867, 871] rfl [857, 858, 333, 340, 274, 293, 337, 860, 862, 21, 303, 864, 866, 22, 868, 869, 870, 272, 931, 872] (by decide +kernel)
set_option maxRecDepth 20000 in
theorem zin_wsL_law_r23 : ∀ w ∈ wsL_law_r23, w ∈ lw_tbl := zplace2 [875, 905, 879, 883, 887, 891] rfl [873, 874, 289, 914, 904, 876, 878, 23, 880, 881, 882, 884, 885, 886, 888, 890, 24, 893] (by decide +kernel)
set_option maxRecDepth 20000 in
theorem zin_wsL_law_r24 : ∀ w ∈ wsL_law_r24, w ∈ lw_tbl := zplace2 [894, 908, 898, 902, 912, 917] rfl [895, 903, 906, 907, 896, 897, 899, 900, 901, 143, 909, 911, 25, 913, 915, 916, 918, 919] (by decide +kernel)
set_option maxRecDepth 20000 in
theorem zin_wsL_law_r25 : ∀ w ∈ wsL_law_r25, w ∈ lw_tbl := zplace2 [923, 927, 930, 935, 939, 943] rfl [920, 921, 922, 924, 925, 926, 928, 929, 932, 934, 26, 936, 937, 938, 940, 941, 942, 470] (by decide +kernel)
set_option maxRecDepth 20000 in
theorem zin_wsL_law_r26 : ∀ w ∈ wsL_law_r26, w ∈ lw_tbl := zplace2 [947, 951, 1569, 1573, 1577] rfl [944, 945, 946, 528, 948, 949, 950, 1566, 1567, 1568, 1570, 1572, 47, 1574, 1576, 48, 1578, 1580, 49] (by decide +kernel)
set_option maxRecDepth 20000 in
theorem zin_wsL_law_r27 : ∀ w ∈ wsL_law_r27, w ∈ lw_tbl := zplace2 [1581, 1585, 1589, 1593, 1597, 1601] rfl [1582, 1584, 50, 1656, 1586, 1588, 51, 1590, 1592, 52, 1594, 1596, 53, 1598, 1600, 54, 1602, 1604] (by decide +kernel)
set_option maxRecDepth 20000 in
theorem zin_wsL_law_r28 : ∀ w ∈ wsL_law_r28, w ∈ lw_tbl := zplace2 [1605, 1608, 1612, 1616, 1620, 1624] rfl [55, 1606, 1607, 1609, 1611, 56, 1641, 1655, 1613, 1615, 57, 1617, 1619, 58, 1621, 1623, 59, 1625] (by decide +kernel)
set_option maxRecDepth 20000 in
theorem zin_wsL_law_r29 : ∀ w ∈ wsL_law_r29, w ∈ lw_tbl := zplace2 [1628, 1632, 1636, 1640, 1645, 1649] rfl [1627, 60, 1629, 1631, 61, 1633, 1635, 62, 1637, 1639, 63, 1642, 1644, 64, 1646, 1648, 65, 1650] (by decide +kernel)
set_option maxRecDepth 20000 in
theorem zin_wsL_law_r30 : ∀ w ∈ wsL_law_r30, w ∈ lw_tbl := zplace2 [1654, 1660, 1666, 1670, 1674] rfl [1651, 1652, 1653, 1657, 1659, 66, 1661, 1662, 1663, 1665, 67, 1667, 1669, 68, 1671, 1673, 69, 1675, 1677] (by decide +kernel)
set_option maxRecDepth 20000 in
theorem zin_wsL_law_r31 : ∀ w ∈ wsL_law_r31, w ∈ lw_tbl := zplace2 [1678, 1682, 1687, 1691, 1695, 1699] rfl [70, 1679, 1681, 71, 1683, 1684, 1686, 72, 1688, 1690, 73, 1692, 1694, 74, 1696, 1698, 75, 1700] (by decide +kernel)
set_option maxRecDepth 20000 in
theorem zin_wsL_law_r32 : ∀ w ∈ wsL_law_r32, w ∈ lw_tbl := zplace2 [1702, 1706, 1710, 1714, 955, 1718] rfl [1701, 1703, 1705, 76, 1707, 1709, 77, 1711, 1713, 78, 952, 953, 954, 247, 249, 1715, 1716, 1717] (by decide +kernel)
set_option maxRecDepth 20000 in
theorem zin_wsL_law_r33 : ∀ w ∈ wsL_law_r33, w ∈ lw_tbl := zplace2 [959, 963, 1722, 1726] rfl [956, 957, 958, 390, 283, 336, 339, 400, 960, 961, 962, 1719, 1720, 1721, 1723, 1725, 79, 1727, 1729, 80] (by decide +kernel)
set_option maxRecDepth 20000 in
theorem zin_wsL_law_r34 : ∀ w ∈ wsL_law_r34, w ∈ lw_tbl := zplace2 [1730, 1734, 1738, 1742, 967, 971] rfl [1731, 1733, 81, 1735, 1737, 82, 1739, 1741, 83, 964, 965, 966, 392, 285, 968, 969, 970, 972] (by decide +kernel)
set_option maxRecDepth 20000 in
theorem zin_wsL_law_r35 : ∀ w ∈ wsL_law_r35, w ∈ lw_tbl := zplace2 [975, 978, 1746, 1750, 1754, 982] rfl [973, 974, 976, 977, 1743, 1744, 1745, 1755, 1747, 1749, 84, 1751, 1753, 85, 979, 980, 981, 394] (by decide +kernel)
set_option maxRecDepth 20000 in
theorem zin_wsL_law_r36 : ∀ w ∈ wsL_law_r36, w ∈ lw_tbl := zplace2 [1759, 986, 1763, 1767] rfl [396, 398, 1756, 1757, 1758, 983, 984, 985, 290, 344, 294, 299, 987, 1760, 1761, 1762, 1764, 1766, 86, 988] (by decide +kernel)
set_option maxRecDepth 20000 in
theorem zin_wsL_law_r37 : ∀ w ∈ wsL_law_r37, w ∈ lw_tbl := zplace2 [991, 1771, 997, 1776] rfl [989, 990, 992, 993, 1768, 1769, 1770, 1772, 994, 995, 996, 417, 376, 374, 371, 1773, 1774, 1775, 1777, 1779] (by decide +kernel)
set_option maxRecDepth 20000 in
theorem zin_wsL_law_r38 : ∀ w ∈ wsL_law_r38, w ∈ lw_tbl := zplace2 [1780, 1784, 1788, 1792, 1795, 1798] rfl [87, 1781, 1783, 88, 1785, 1787, 89, 1789, 1791, 90, 1793, 1794, 1796, 1797, 1799, 1800, 1801, 1802] (by decide +kernel)
set_option maxRecDepth 20000 in
theorem zin_wsL_law_r39 : ∀ w ∈ wsL_law_r39, w ∈ lw_tbl := zplace2 [1804, 1807, 1811, 1814, 1001, 1005, 1009] rfl [1803, 1805, 1806, 1808, 1810, 91, 1812, 1813, 998, 999, 1000, 1002, 1003, 1004, 1006, 1007, 1008] (by decide +kernel)
set_option maxRecDepth 20000 in
theorem zin_wsL_law_r40 : ∀ w ∈ wsL_law_r40, w ∈ lw_tbl := zplace2 [1818, 1013, 1822, 1826, 1017] rfl [1815, 1816, 1817, 1010, 1011, 1012, 301, 1819, 1820, 1821, 1823, 1825, 92, 1014, 1015, 1016, 1018, 1019, 1020] (by decide +kernel)
set_option maxRecDepth 20000 in
theorem zin_wsL_law_r41 : ∀ w ∈ wsL_law_r41, w ∈ lw_tbl := zplace2 [1021, 1025, 1830, 1029, 1033, 1038] rfl [341, 1022, 1023, 1024, 345, 1827, 1828, 1829, 1026, 1027, 1028, 1030, 1031, 1032, 1034, 1035, 1036, 1037] (by decide +kernel)
set_option maxRecDepth 20000 in
theorem zin_wsL_law_r42 : ∀ w ∈ wsL_law_r42, w ∈ lw_tbl := zplace2 [1834, 1042, 1046, 1050, 1838] rfl [1831, 1832, 1833, 1039, 1040, 1041, 1043, 1044, 1045, 1047, 1048, 1049, 1051, 1052, 1053, 1835, 1836, 1837, 1839] (by decide +kernel)
set_option maxRecDepth 20000 in
theorem zin_wsL_law_r43 : ∀ w ∈ wsL_law_r43, w ∈ lw_tbl := zplace2 [1842, 1846, 1850, 1854, 1858, 1057] rfl [1841, 93, 1843, 1845, 94, 1847, 1849, 95, 1851, 1853, 96, 1855, 1857, 97, 1054, 1055, 1056, 1058] (by decide +kernel)
set_option maxRecDepth 20000 in
theorem zin_wsL_law_r44 : ∀ w ∈ wsL_law_r44, w ∈ lw_tbl := zplace2 [1862, 1062, 1066, 1070] rfl [1859, 1860, 1861, 1059, 1060, 1061, 448, 1063, 1064, 1065, 447, 449, 404, 276, 296, 1067, 1068, 1069, 288, 1085] (by decide +kernel)
set_option maxRecDepth 20000 in
theorem zin_wsL_law_r45 : ∀ w ∈ wsL_law_r45, w ∈ lw_tbl := zplace2 [1075, 1079, 1084, 1089, 1095] rfl [1090, 1091, 1071, 1072, 1073, 1074, 1076, 1078, 27, 1080, 1081, 1083, 1086, 1087, 1088, 1092, 1093, 1094, 1096] (by decide +kernel)
set_option maxRecDepth 20000 in
theorem zin_wsL_law_r46 : ∀ w ∈ wsL_law_r46, w ∈ lw_tbl := zplace2 [1100, 1866, 1870, 1874, 1878] rfl [1097, 1098, 1099, 298, 1863, 1864, 1865, 1867, 1869, 98, 1871, 1873, 99, 1875, 1877, 100, 1879, 1881, 101] (by decide +kernel)
set_option maxRecDepth 20000 in
theorem zin_wsL_law_r47 : ∀ w ∈ wsL_law_r47, w ∈ lw_tbl := zplace2 [1882, 1104, 1886, 1108, 1890, 1112] rfl [1101, 1102, 1103, 450, 1883, 1884, 1885, 1105, 1106, 1107, 446, 1887, 1888, 1889, 1109, 1110, 1111, 1113] (by decide +kernel)
set_option maxRecDepth 20000 in
theorem zin_wsL_law_r48 : ∀ w ∈ wsL_law_r48, w ∈ lw_tbl := zplace2 [1117, 1894, 1898, 1121, 1125] rfl [1114, 1116, 28, 1891, 1892, 1893, 1895, 1897, 102, 1118, 1119, 1120, 1126, 1122, 1123, 1124, 291, 1127, 1129] (by decide +kernel)
set_option maxRecDepth 20000 in
theorem zin_wsL_law_r49 : ∀ w ∈ wsL_law_r49, w ∈ lw_tbl := zplace2 [1130, 1902, 1135, 1138, 1142, 1907] rfl [29, 1131, 1899, 1900, 1901, 1903, 1132, 1133, 1134, 1136, 1137, 1139, 1140, 1141, 1904, 1905, 1906, 1908] (by decide +kernel)
set_option maxRecDepth 20000 in
theorem zin_wsL_law_r50 : ∀ w ∈ wsL_law_r50, w ∈ lw_tbl := zplace2 [1911, 1915, 1146, 1150] rfl [1910, 103, 1912, 1914, 104, 1143, 1144, 1145, 477, 479, 1147, 1148, 1149, 406, 278, 410, 338, 474, 1151, 1152] (by decide +kernel)
set_option maxRecDepth 20000 in
theorem zin_wsL_law_r51 : ∀ w ∈ wsL_law_r51, w ∈ lw_tbl := zplace2 [1155, 1160, 1163, 1169] rfl [1154, 30, 389, 471, 416, 1156, 1157, 1159, 31, 1161, 1162, 335, 348, 1164, 1165, 1166, 1168, 32, 445, 478] (by decide +kernel)
set_option maxRecDepth 20000 in
theorem zin_wsL_law_r52 : ∀ w ∈ wsL_law_r52, w ∈ lw_tbl := zplace2 [1919, 1923, 1927, 1931, 1935] rfl [1170, 1171, 1916, 1917, 1918, 1920, 1922, 105, 1924, 1926, 106, 1928, 1930, 107, 1932, 1934, 108, 1172, 1173] (by decide +kernel)
set_option maxRecDepth 20000 in
theorem zin_wsL_law_r53 : ∀ w ∈ wsL_law_r53, w ∈ lw_tbl := zplace2 [1175, 1939, 1179, 1183] rfl [1174, 475, 1936, 1937, 1938, 1176, 1177, 1178, 540, 538, 536, 1180, 1181, 1182, 529, 411, 539, 415, 537, 388] (by decide +kernel)
set_option maxRecDepth 20000 in
theorem zin_wsL_law_r54 : ∀ w ∈ wsL_law_r54, w ∈ lw_tbl := zplace2 [1192, 1196, 1200, 1204] rfl [1184, 1185, 1186, 1187, 1188, 1189, 1191, 33, 534, 1193, 1195, 34, 334, 347, 1197, 1199, 35, 1201, 1203, 36] (by decide +kernel)
set_option maxRecDepth 20000 in
theorem zin_wsL_law_r55 : ∀ w ∈ wsL_law_r55, w ∈ lw_tbl := zplace2 [1208, 1943, 1947, 1951, 1955, 1959] rfl [1205, 1207, 37, 1940, 1941, 1942, 1944, 1946, 109, 1948, 1950, 110, 1952, 1954, 111, 1956, 1958, 112] (by decide +kernel)
set_option maxRecDepth 20000 in
theorem zin_wsL_law_r56 : ∀ w ∈ wsL_law_r56, w ∈ lw_tbl := zplace2 [1212, 1216, 1221, 1963] rfl [1209, 1210, 1211, 542, 544, 546, 548, 1213, 1214, 1215, 541, 543, 1218, 1219, 1220, 1960, 1961, 1962, 1964, 1965] (by decide +kernel)
set_option maxRecDepth 20000 in
theorem zin_wsL_law_r57 : ∀ w ∈ wsL_law_r57, w ∈ lw_tbl := zplace2 [1968, 1225, 1229, 1233, 1972, 1976] rfl [1967, 113, 1222, 1223, 1224, 1226, 1228, 38, 1230, 1232, 39, 1234, 1969, 1970, 1971, 1973, 1975, 114] (by decide +kernel)
set_option maxRecDepth 20000 in
theorem zin_wsL_law_r58 : ∀ w ∈ wsL_law_r58, w ∈ lw_tbl := zplace2 [1980, 1238, 1242, 1247] rfl [1977, 1979, 115, 1235, 1236, 1237, 482, 484, 486, 488, 1239, 1240, 1241, 481, 1243, 1244, 1246, 40, 1248, 1250] (by decide +kernel)
set_option maxRecDepth 20000 in
theorem zin_wsL_law_r59 : ∀ w ∈ wsL_law_r59, w ∈ lw_tbl := zplace2 [1251, 1255, 1984, 1988, 1992, 1259] rfl [41, 1252, 1254, 42, 1981, 1982, 1983, 1985, 1987, 116, 1989, 1991, 117, 1256, 1257, 1258, 1260, 1261] (by decide +kernel)
set_option maxRecDepth 20000 in
theorem zin_wsL_law_r60 : ∀ w ∈ wsL_law_r60, w ∈ lw_tbl := zplace2 [1263, 1996, 1268, 1271, 2000, 2003] rfl [1262, 1264, 1993, 1994, 1995, 1265, 1266, 1267, 1269, 1270, 1272, 1997, 1998, 1999, 2001, 2002, 2004, 1273] (by decide +kernel)
set_option maxRecDepth 20000 in
theorem zin_wsL_law_r61 : ∀ w ∈ wsL_law_r61, w ∈ lw_tbl := zplace2 [1276, 1280, 1286] rfl [1274, 1275, 1277, 1278, 1279, 407, 279, 412, 1281, 1282, 1283, 1285, 43, 343, 370, 373, 444, 297, 1287, 1288, 1289] (by decide +kernel)
set_option maxRecDepth 20000 in
theorem zin_wsL_law_r62 : ∀ w ∈ wsL_law_r62, w ∈ lw_tbl := zplace2 [1290, 2008, 2012] rfl [1291, 1292, 1293, 1294, 1295, 1296, 1297, 1298, 1299, 1300, 2005, 2006, 2007, 2009, 2011, 118, 2013, 2014, 2015, 2017, 119] (by decide +kernel)
set_option maxRecDepth 20000 in
theorem zin_wsL_law_r63 : ∀ w ∈ wsL_law_r63, w ∈ lw_tbl := zplace2 [2018, 2022, 1304, 2026, 1308] rfl [2019, 2021, 120, 1301, 1302, 1303, 596, 598, 2023, 2024, 2025, 1305, 1306, 1307, 619, 617, 1325, 1309, 1310] (by decide +kernel)
set_option maxRecDepth 20000 in
theorem zin_wsL_law_r64 : ∀ w ∈ wsL_law_r64, w ∈ lw_tbl := zplace2 [1312, 1322, 2030, 2035] rfl [1311, 403, 273, 287, 1315, 1316, 1317, 1313, 1314, 1318, 1320, 1321, 1323, 2027, 2028, 2029, 2031, 2032, 2034, 121] (by decide +kernel)
set_option maxRecDepth 20000 in
theorem zin_wsL_law_r65 : ∀ w ∈ wsL_law_r65, w ∈ lw_tbl := zplace2 [2039, 2045, 2049, 2053, 1329] rfl [2036, 2038, 122, 2040, 2041, 2042, 2043, 2044, 2046, 2048, 123, 2050, 2052, 124, 1326, 1327, 1328, 2054, 2055] (by decide +kernel)
set_option maxRecDepth 20000 in
theorem zin_wsL_law_r66 : ∀ w ∈ wsL_law_r66, w ∈ lw_tbl := zplace2 [2057, 1333, 2061, 1337, 2065] rfl [2056, 1330, 1331, 1332, 2058, 2059, 2060, 1334, 1335, 1336, 2062, 2063, 2064, 2066] (by decide +kernel)
set_option maxRecDepth 20000 in
theorem inX0 : ∀ w ∈ wsX00, w ∈ lw_tbl := zplace [599, 601, 603, 605, 607] (by decide +kernel)
set_option maxRecDepth 20000 in
theorem inX1 : ∀ w ∈ wsX10, w ∈ lw_tbl := zplace [489, 491, 493, 495, 497, 499, 501, 503, 505, 507, 509, 511, 513, 515] (by decide +kernel)
set_option maxRecDepth 20000 in
theorem inX2 : ∀ w ∈ wsX20, w ∈ lw_tbl := zplace [350, 352, 354, 356, 358, 360] (by decide +kernel)
set_option maxRecDepth 20000 in
theorem inX3 : ∀ w ∈ wsX30, w ∈ lw_tbl := zplace [549, 551, 553, 555, 557, 559, 561, 563, 565, 567, 569, 571, 573, 575, 577, 579] (by decide +kernel)
set_option maxRecDepth 20000 in
theorem inX4 : ∀ w ∈ wsX40, w ∈ lw_tbl := zplace [306, 308, 310, 312, 314, 316, 318, 320, 322, 324] (by decide +kernel)
set_option maxRecDepth 20000 in
theorem inX5 : ∀ w ∈ wsX50, w ∈ lw_tbl := zplace [250, 252, 254, 256] (by decide +kernel)
set_option maxRecDepth 20000 in
theorem inX6 : ∀ w ∈ wsX60, w ∈ lw_tbl := zplace [377, 379, 381] (by decide +kernel)
set_option maxRecDepth 20000 in
theorem inX7 : ∀ w ∈ wsX70, w ∈ lw_tbl := zplace [451, 453, 455] (by decide +kernel)
set_option maxRecDepth 20000 in
theorem inX8 : ∀ w ∈ wsX80, w ∈ lw_tbl := zplace [620, 622] (by decide +kernel)
set_option maxRecDepth 20000 in
theorem inX9 : ∀ w ∈ wsX90, w ∈ lw_tbl := zplace [418, 420, 422, 424, 426, 428, 430, 432, 434] (by decide +kernel)
set_option maxRecDepth 20000 in
theorem inX10 : ∀ w ∈ wsX100, w ∈ lw_tbl := zplace [225, 227, 229, 231, 233, 235, 237, 239] (by decide +kernel)
set_option maxRecDepth 20000 in
theorem inX11 : ∀ w ∈ wsX110, w ∈ lw_tbl := zplace [641, 643, 645, 647, 649, 651, 653, 655, 657, 659, 661, 663, 665, 667, 669, 671] (by decide +kernel)
set_option maxRecDepth 20000 in
theorem inX12 : ∀ w ∈ wsX120, w ∈ lw_tbl := zplace [1411, 1413, 1415, 1417, 1419, 1421, 1423, 1425, 1427, 1429, 1431, 1433, 1435, 1437, 1439, 1441, 1443, 1445, 1447, 1449, 1451, 1453, 1455, 1457, 1459, 1461, 1463, 1465, 1467, 1469, 1471, 1473, 1475, 1477, 1479, 1481, 1483, 1485, 1487, 1489, 1491, 1493, 1495, 1497, 1499, 1501, 1503, 1505, 1507, 1509, 1511, 1513, 1515, 1517, 1519, 1521, 1523, 1525, 1527, 1529, 1531, 1533, 1535, 1537, 1539, 1541, 1543] (by decide +kernel)
set_option maxRecDepth 20000 in
theorem wsL_law_in : ∀ w ∈ wsL_law, w ∈ lw_tbl := List.forall_mem_append.mpr ⟨List.forall_mem_append.mpr ⟨List.forall_mem_append.mpr ⟨List.forall_mem_append.mpr ⟨List.forall_mem_append.mpr ⟨List.forall_mem_append.mpr ⟨List.forall_mem_append.mpr ⟨List.forall_mem_append.mpr ⟨List.forall_mem_append.mpr ⟨List.forall_mem_append.mpr ⟨List.forall_mem_append.mpr ⟨List.forall_mem_append.mpr ⟨List.forall_mem_append.mpr ⟨List.forall_mem_append.mpr ⟨List.forall_mem_append.mpr ⟨zin_wsL_law_r1, List.forall_mem_append.mpr ⟨zin_wsL_law_r2, List.forall_mem_append.mpr ⟨zin_wsL_law_r3, List.forall_mem_append.mpr ⟨zin_wsL_law_r4, List.forall_mem_append.mpr ⟨zin_wsL_law_r5, List.forall_mem_append.mpr ⟨zin_wsL_law_r6, List.forall_mem_append.mpr ⟨zin_wsL_law_r7, List.forall_mem_append.mpr ⟨zin_wsL_law_r8, List.forall_mem_append.mpr ⟨zin_wsL_law_r9, List.forall_mem_append.mpr ⟨zin_wsL_law_r10, List.forall_mem_append.mpr ⟨zin_wsL_law_r11, List.forall_mem_append.mpr ⟨zin_wsL_law_r12, List.forall_mem_append.mpr ⟨zin_wsL_law_r13, List.forall_mem_append.mpr ⟨zin_wsL_law_r14, List.forall_mem_append.mpr ⟨zin_wsL_law_r15, List.forall_mem_append.mpr ⟨zin_wsL_law_r16, List.forall_mem_append.mpr ⟨zin_wsL_law_r17, List.forall_mem_append.mpr ⟨zin_wsL_law_r18, List.forall_mem_append.mpr ⟨zin_wsL_law_r19, List.forall_mem_append.mpr ⟨zin_wsL_law_r20, List.forall_mem_append.mpr ⟨zin_wsL_law_r21, List.forall_mem_append.mpr ⟨zin_wsL_law_r22, List.forall_mem_append.mpr ⟨zin_wsL_law_r23, List.forall_mem_append.mpr ⟨zin_wsL_law_r24, List.forall_mem_append.mpr ⟨zin_wsL_law_r25, List.forall_mem_append.mpr ⟨zin_wsL_law_r26, List.forall_mem_append.mpr ⟨zin_wsL_law_r27, List.forall_mem_append.mpr ⟨zin_wsL_law_r28, List.forall_mem_append.mpr ⟨zin_wsL_law_r29, List.forall_mem_append.mpr ⟨zin_wsL_law_r30, List.forall_mem_append.mpr ⟨zin_wsL_law_r31, List.forall_mem_append.mpr ⟨zin_wsL_law_r32, List.forall_mem_append.mpr ⟨zin_wsL_law_r33, List.forall_mem_append.mpr ⟨zin_wsL_law_r34, List.forall_mem_append.mpr ⟨zin_wsL_law_r35, List.forall_mem_append.mpr ⟨zin_wsL_law_r36, List.forall_mem_append.mpr ⟨zin_wsL_law_r37, List.forall_mem_append.mpr ⟨zin_wsL_law_r38, List.forall_mem_append.mpr ⟨zin_wsL_law_r39, List.forall_mem_append.mpr ⟨zin_wsL_law_r40, List.forall_mem_append.mpr ⟨zin_wsL_law_r41, List.forall_mem_append.mpr ⟨zin_wsL_law_r42, List.forall_mem_append.mpr ⟨zin_wsL_law_r43, List.forall_mem_append.mpr ⟨zin_wsL_law_r44, List.forall_mem_append.mpr ⟨zin_wsL_law_r45, List.forall_mem_append.mpr ⟨zin_wsL_law_r46, List.forall_mem_append.mpr ⟨zin_wsL_law_r47, List.forall_mem_append.mpr ⟨zin_wsL_law_r48, List.forall_mem_append.mpr ⟨zin_wsL_law_r49, List.forall_mem_append.mpr ⟨zin_wsL_law_r50, List.forall_mem_append.mpr ⟨zin_wsL_law_r51, List.forall_mem_append.mpr ⟨zin_wsL_law_r52, List.forall_mem_append.mpr ⟨zin_wsL_law_r53, List.forall_mem_append.mpr ⟨zin_wsL_law_r54, List.forall_mem_append.mpr ⟨zin_wsL_law_r55, List.forall_mem_append.mpr ⟨zin_wsL_law_r56, List.forall_mem_append.mpr ⟨zin_wsL_law_r57, List.forall_mem_append.mpr ⟨zin_wsL_law_r58, List.forall_mem_append.mpr ⟨zin_wsL_law_r59, List.forall_mem_append.mpr ⟨zin_wsL_law_r60, List.forall_mem_append.mpr ⟨zin_wsL_law_r61, List.forall_mem_append.mpr ⟨zin_wsL_law_r62, List.forall_mem_append.mpr ⟨zin_wsL_law_r63, List.forall_mem_append.mpr ⟨zin_wsL_law_r64, List.forall_mem_append.mpr ⟨zin_wsL_law_r65, zin_wsL_law_r66⟩⟩⟩⟩⟩⟩⟩⟩⟩⟩⟩⟩⟩⟩⟩⟩⟩⟩⟩⟩⟩⟩⟩⟩⟩⟩⟩⟩⟩⟩⟩⟩⟩⟩⟩⟩⟩⟩⟩⟩⟩⟩⟩⟩⟩⟩⟩⟩⟩⟩⟩⟩⟩⟩⟩⟩⟩⟩⟩⟩⟩⟩⟩⟩⟩, inX11⟩, inX12⟩, inX5⟩, inX9⟩, inX7⟩, inX6⟩, inX1⟩, inX3⟩, inX0⟩, inX8⟩, inX10⟩, inX4⟩, inX2⟩, fun _ h => absurd h List.not_mem_nil⟩
