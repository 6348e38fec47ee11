theorem zplace {big ws : List Cond} (ps : List Nat) (hp : ws = ps.filterMap (fun i => big[i]?)) : ∀ w ∈ ws, w ∈ big := by
  intro w hw
  rw [hp] at hw
  obtain ⟨i, -, hi⟩ := List.mem_filterMap.mp hw
  exact List.mem_of_getElem? hi
set_option maxRecDepth 20000 in
theorem zin_wsL_law_r1 : ∀ w ∈ wsL_law_r1, w ∈ lw_tbl := zplace [144, 145, 126, 1338, 1339, 142, 146, 147, 148, 149, 150, 151, 242, 625, 243, 627, 152, 153, 127, 628, 259, 260, 133, 629] (by decide +kernel)
set_option maxRecDepth 20000 in
theorem zin_wsL_law_r2 : ∀ w ∈ wsL_law_r2, w ∈ lw_tbl := zplace [630, 631, 632, 437, 438, 137, 633, 634, 458, 364, 136, 635, 460, 461, 138, 636, 518, 519, 139, 637, 582, 583, 140, 638] (by decide +kernel)
set_option maxRecDepth 20000 in
theorem zin_wsL_law_r3 : ∀ w ∈ wsL_law_r3, w ∈ lw_tbl := zplace [610, 611, 141, 639, 640, 155, 156, 157, 158, 159, 128, 244, 248, 160, 161, 162, 163, 213, 214, 165, 166, 167, 129, 168] (by decide +kernel)
set_option maxRecDepth 20000 in
theorem zin_wsL_law_r4 : ∀ w ∈ wsL_law_r4, w ∈ lw_tbl := zplace [2067, 169, 170, 171, 172, 173, 2068, 175, 176, 177, 178, 179, 180, 181, 182, 183, 184, 130, 185, 186, 187, 188, 189, 191] (by decide +kernel)
set_option maxRecDepth 20000 in
theorem zin_wsL_law_r5 : ∀ w ∈ wsL_law_r5, w ∈ lw_tbl := zplace [192, 131, 193, 194, 195, 132, 196, 197, 198, 199, 200, 201, 202, 203, 204, 205, 206, 207, 209, 211, 262, 263, 264, 391] (by decide +kernel)
set_option maxRecDepth 20000 in
theorem zin_wsL_law_r6 : ∀ w ∈ wsL_law_r6, w ∈ lw_tbl := zplace [393, 395, 397, 265, 266, 134, 402, 327, 328, 135, 409, 363, 414, 268, 269, 270, 284, 286, 292, 295, 300, 302, 304, 305] (by decide +kernel)
set_option maxRecDepth 20000 in
theorem zin_wsL_law_r7 : ∀ w ∈ wsL_law_r7, w ∈ lw_tbl := zplace [330, 331, 332, 342, 346, 349, 366, 367, 368, 384, 369, 372, 385, 375, 440, 441, 442, 443, 463, 464, 465, 466, 468, 469] (by decide +kernel)
set_option maxRecDepth 20000 in
theorem zin_wsL_law_r8 : ∀ w ∈ wsL_law_r8, w ∈ lw_tbl := zplace [472, 473, 476, 480, 483, 485, 487, 521, 522, 523, 524, 526, 527, 530, 531, 532, 533, 535, 545, 547, 585, 586, 587, 588] (by decide +kernel)
set_option maxRecDepth 20000 in
theorem zin_wsL_law_r9 : ∀ w ∈ wsL_law_r9, w ∈ lw_tbl := zplace [592, 590, 593, 594, 595, 597, 613, 614, 615, 616, 618, 1340, 1341, 1342, 1343, 1344, 1345, 1346, 1347, 1348, 1349, 1350, 1351, 1352] (by decide +kernel)
set_option maxRecDepth 20000 in
theorem zin_wsL_law_r10 : ∀ w ∈ wsL_law_r10, w ∈ lw_tbl := zplace [1353, 1354, 1355, 1356, 1357, 1358, 1359, 1360, 1361, 1362, 1363, 1364, 1365, 1366, 1367, 1368, 1369, 1370, 1371, 1372, 1373, 1374, 1375, 1376] (by decide +kernel)
set_option maxRecDepth 20000 in
theorem zin_wsL_law_r11 : ∀ w ∈ wsL_law_r11, w ∈ lw_tbl := zplace [1377, 1378, 1379, 1380, 1381, 1382, 1383, 1384, 1385, 1386, 1387, 1388, 1389, 1390, 1391, 1392, 1393, 1394, 1395, 1396, 1397, 1398, 1399, 1400] (by decide +kernel)
set_option maxRecDepth 20000 in
theorem zin_wsL_law_r12 : ∀ w ∈ wsL_law_r12, w ∈ lw_tbl := zplace [1401, 1402, 1403, 1404, 1405, 1406, 1407, 1408, 1409, 1410, 674, 675, 676, 677, 626, 678, 680, 0, 681, 682, 684, 1, 685, 1546] (by decide +kernel)
set_option maxRecDepth 20000 in
theorem zin_wsL_law_r13 : ∀ w ∈ wsL_law_r13, w ∈ lw_tbl := zplace [1547, 1548, 1549, 1550, 1552, 44, 1553, 1554, 1556, 45, 1557, 686, 687, 688, 689, 1558, 1559, 1560, 1561, 1562, 1564, 46, 1565, 690] (by decide +kernel)
set_option maxRecDepth 20000 in
theorem zin_wsL_law_r14 : ∀ w ∈ wsL_law_r14, w ∈ lw_tbl := zplace [691, 692, 693, 413, 408, 280, 694, 695, 696, 697, 246, 218, 387, 405, 277, 698, 699, 700, 701, 386, 399, 275, 281, 702] (by decide +kernel)
set_option maxRecDepth 20000 in
theorem zin_wsL_law_r15 : ∀ w ∈ wsL_law_r15, w ∈ lw_tbl := zplace [703, 704, 705, 706, 707, 143, 708, 709, 710, 711, 215, 216, 217, 712, 713, 714, 715, 219, 221, 223, 716, 717, 718, 719] (by decide +kernel)
set_option maxRecDepth 20000 in
theorem zin_wsL_law_r16 : ∀ w ∈ wsL_law_r16, w ∈ lw_tbl := zplace [721, 2, 722, 723, 725, 3, 726, 727, 729, 4, 730, 224, 220, 731, 732, 733, 734, 736, 5, 737, 738, 739, 740, 741] (by decide +kernel)
set_option maxRecDepth 20000 in
theorem zin_wsL_law_r17 : ∀ w ∈ wsL_law_r17, w ∈ lw_tbl := zplace [742, 744, 6, 745, 245, 770, 779, 746, 748, 7, 749, 222, 750, 751, 752, 753, 754, 755, 756, 757, 758, 759, 760, 761] (by decide +kernel)
set_option maxRecDepth 20000 in
theorem zin_wsL_law_r18 : ∀ w ∈ wsL_law_r18, w ∈ lw_tbl := zplace [271, 762, 764, 8, 765, 766, 767, 768, 769, 771, 773, 9, 774, 775, 776, 777, 778, 780, 781, 782, 783, 784, 786, 10] (by decide +kernel)
set_option maxRecDepth 20000 in
theorem zin_wsL_law_r19 : ∀ w ∈ wsL_law_r19, w ∈ lw_tbl := zplace [787, 401, 788, 790, 11, 791, 792, 793, 794, 795, 796, 797, 798, 799, 800, 801, 806, 282, 802, 804, 12, 805, 807, 809] (by decide +kernel)
set_option maxRecDepth 20000 in
theorem zin_wsL_law_r20 : ∀ w ∈ wsL_law_r20, w ∈ lw_tbl := zplace [13, 810, 811, 813, 14, 814, 815, 817, 15, 818, 823, 819, 821, 16, 822, 824, 826, 17, 827, 828, 830, 18, 831, 832] (by decide +kernel)
set_option maxRecDepth 20000 in
theorem zin_wsL_law_r21 : ∀ w ∈ wsL_law_r21, w ∈ lw_tbl := zplace [833, 834, 835, 836, 838, 19, 839, 840, 841, 842, 843, 844, 846, 20, 847, 848, 849, 850, 851, 852, 853, 854, 855, 856] (by decide +kernel)
set_option maxRecDepth 20000 in
theorem zin_wsL_law_r22 : ∀ w ∈ wsL_law_r22, w ∈ lw_tbl := zplace [857, 858, 859, 333, 340, 274, 293, 337, 860, 862, 21, 863, 303, 864, 866, 22, 867, 868, 869, 870, 871, 272, 931, 872] (by decide +kernel)
set_option maxRecDepth 20000 in
theorem zin_wsL_law_r23 : ∀ w ∈ wsL_law_r23, w ∈ lw_tbl := zplace [873, 874, 875, 289, 914, 904, 905, 876, 878, 23, 879, 880, 881, 882, 883, 884, 885, 886, 887, 888, 890, 24, 891, 893] (by decide +kernel)
set_option maxRecDepth 20000 in
theorem zin_wsL_law_r24 : ∀ w ∈ wsL_law_r24, w ∈ lw_tbl := zplace [894, 895, 903, 906, 907, 908, 896, 897, 898, 899, 900, 901, 143, 902, 909, 911, 25, 912, 913, 915, 916, 917, 918, 919] (by decide +kernel)
set_option maxRecDepth 20000 in
theorem zin_wsL_law_r25 : ∀ w ∈ wsL_law_r25, w ∈ lw_tbl := zplace [920, 921, 922, 923, 924, 925, 926, 927, 928, 929, 930, 932, 934, 26, 935, 936, 937, 938, 939, 940, 941, 942, 943, 470] (by decide +kernel)
set_option maxRecDepth 20000 in
theorem zin_wsL_law_r26 : ∀ w ∈ wsL_law_r26, w ∈ lw_tbl := zplace [944, 945, 946, 947, 528, 948, 949, 950, 951, 1566, 1567, 1568, 1569, 1570, 1572, 47, 1573, 1574, 1576, 48, 1577, 1578, 1580, 49] (by decide +kernel)
set_option maxRecDepth 20000 in
theorem zin_wsL_law_r27 : ∀ w ∈ wsL_law_r27, w ∈ lw_tbl := zplace [1581, 1582, 1584, 50, 1585, 1656, 1586, 1588, 51, 1589, 1590, 1592, 52, 1593, 1594, 1596, 53, 1597, 1598, 1600, 54, 1601, 1602, 1604] (by decide +kernel)
set_option maxRecDepth 20000 in
theorem zin_wsL_law_r28 : ∀ w ∈ wsL_law_r28, w ∈ lw_tbl := zplace [55, 1605, 1606, 1607, 1608, 1609, 1611, 56, 1612, 1641, 1655, 1613, 1615, 57, 1616, 1617, 1619, 58, 1620, 1621, 1623, 59, 1624, 1625] (by decide +kernel)
set_option maxRecDepth 20000 in
theorem zin_wsL_law_r29 : ∀ w ∈ wsL_law_r29, w ∈ lw_tbl := zplace [1627, 60, 1628, 1629, 1631, 61, 1632, 1633, 1635, 62, 1636, 1637, 1639, 63, 1640, 1642, 1644, 64, 1645, 1646, 1648, 65, 1649, 1650] (by decide +kernel)
set_option maxRecDepth 20000 in
theorem zin_wsL_law_r30 : ∀ w ∈ wsL_law_r30, w ∈ lw_tbl := zplace [1651, 1652, 1653, 1654, 1657, 1659, 66, 1660, 1661, 1662, 1663, 1665, 67, 1666, 1667, 1669, 68, 1670, 1671, 1673, 69, 1674, 1675, 1677] (by decide +kernel)
set_option maxRecDepth 20000 in
theorem zin_wsL_law_r31 : ∀ w ∈ wsL_law_r31, w ∈ lw_tbl := zplace [70, 1678, 1679, 1681, 71, 1682, 1683, 1684, 1686, 72, 1687, 1688, 1690, 73, 1691, 1692, 1694, 74, 1695, 1696, 1698, 75, 1699, 1700] (by decide +kernel)
set_option maxRecDepth 20000 in
theorem zin_wsL_law_r32 : ∀ w ∈ wsL_law_r32, w ∈ lw_tbl := zplace [1701, 1702, 1703, 1705, 76, 1706, 1707, 1709, 77, 1710, 1711, 1713, 78, 1714, 952, 953, 954, 955, 247, 249, 1715, 1716, 1717, 1718] (by decide +kernel)
set_option maxRecDepth 20000 in
theorem zin_wsL_law_r33 : ∀ w ∈ wsL_law_r33, w ∈ lw_tbl := zplace [956, 957, 958, 959, 390, 283, 336, 339, 400, 960, 961, 962, 963, 1719, 1720, 1721, 1722, 1723, 1725, 79, 1726, 1727, 1729, 80] (by decide +kernel)
set_option maxRecDepth 20000 in
theorem zin_wsL_law_r34 : ∀ w ∈ wsL_law_r34, w ∈ lw_tbl := zplace [1730, 1731, 1733, 81, 1734, 1735, 1737, 82, 1738, 1739, 1741, 83, 1742, 964, 965, 966, 967, 392, 285, 968, 969, 970, 971, 972] (by decide +kernel)
set_option maxRecDepth 20000 in
theorem zin_wsL_law_r35 : ∀ w ∈ wsL_law_r35, w ∈ lw_tbl := zplace [973, 974, 975, 976, 977, 978, 1743, 1744, 1745, 1746, 1755, 1747, 1749, 84, 1750, 1751, 1753, 85, 1754, 979, 980, 981, 982, 394] (by decide +kernel)
set_option maxRecDepth 20000 in
theorem zin_wsL_law_r36 : ∀ w ∈ wsL_law_r36, w ∈ lw_tbl := zplace [396, 398, 1756, 1757, 1758, 1759, 983, 984, 985, 986, 290, 344, 294, 299, 987, 1760, 1761, 1762, 1763, 1764, 1766, 86, 1767, 988] (by decide +kernel)
set_option maxRecDepth 20000 in
theorem zin_wsL_law_r37 : ∀ w ∈ wsL_law_r37, w ∈ lw_tbl := zplace [989, 990, 991, 992, 993, 1768, 1769, 1770, 1771, 1772, 994, 995, 996, 997, 417, 376, 374, 371, 1773, 1774, 1775, 1776, 1777, 1779] (by decide +kernel)
set_option maxRecDepth 20000 in
theorem zin_wsL_law_r38 : ∀ w ∈ wsL_law_r38, w ∈ lw_tbl := zplace [87, 1780, 1781, 1783, 88, 1784, 1785, 1787, 89, 1788, 1789, 1791, 90, 1792, 1793, 1794, 1795, 1796, 1797, 1798, 1799, 1800, 1801, 1802] (by decide +kernel)
set_option maxRecDepth 20000 in
theorem zin_wsL_law_r39 : ∀ w ∈ wsL_law_r39, w ∈ lw_tbl := zplace [1803, 1804, 1805, 1806, 1807, 1808, 1810, 91, 1811, 1812, 1813, 1814, 998, 999, 1000, 1001, 1002, 1003, 1004, 1005, 1006, 1007, 1008, 1009] (by decide +kernel)
set_option maxRecDepth 20000 in
theorem zin_wsL_law_r40 : ∀ w ∈ wsL_law_r40, w ∈ lw_tbl := zplace [1815, 1816, 1817, 1818, 1010, 1011, 1012, 1013, 301, 1819, 1820, 1821, 1822, 1823, 1825, 92, 1826, 1014, 1015, 1016, 1017, 1018, 1019, 1020] (by decide +kernel)
set_option maxRecDepth 20000 in
theorem zin_wsL_law_r41 : ∀ w ∈ wsL_law_r41, w ∈ lw_tbl := zplace [1021, 341, 1022, 1023, 1024, 1025, 345, 1827, 1828, 1829, 1830, 1026, 1027, 1028, 1029, 1030, 1031, 1032, 1033, 1034, 1035, 1036, 1037, 1038] (by decide +kernel)
set_option maxRecDepth 20000 in
theorem zin_wsL_law_r42 : ∀ w ∈ wsL_law_r42, w ∈ lw_tbl := zplace [1831, 1832, 1833, 1834, 1039, 1040, 1041, 1042, 1043, 1044, 1045, 1046, 1047, 1048, 1049, 1050, 1051, 1052, 1053, 1835, 1836, 1837, 1838, 1839] (by decide +kernel)
set_option maxRecDepth 20000 in
theorem zin_wsL_law_r43 : ∀ w ∈ wsL_law_r43, w ∈ lw_tbl := zplace [1841, 93, 1842, 1843, 1845, 94, 1846, 1847, 1849, 95, 1850, 1851, 1853, 96, 1854, 1855, 1857, 97, 1858, 1054, 1055, 1056, 1057, 1058] (by decide +kernel)
set_option maxRecDepth 20000 in
theorem zin_wsL_law_r44 : ∀ w ∈ wsL_law_r44, w ∈ lw_tbl := zplace [1859, 1860, 1861, 1862, 1059, 1060, 1061, 1062, 448, 1063, 1064, 1065, 1066, 447, 449, 404, 276, 296, 1067, 1068, 1069, 1070, 288, 1085] (by decide +kernel)
set_option maxRecDepth 20000 in
theorem zin_wsL_law_r45 : ∀ w ∈ wsL_law_r45, w ∈ lw_tbl := zplace [1090, 1091, 1071, 1072, 1073, 1074, 1075, 1076, 1078, 27, 1079, 1080, 1081, 1083, 1084, 1086, 1087, 1088, 1089, 1092, 1093, 1094, 1095, 1096] (by decide +kernel)
set_option maxRecDepth 20000 in
theorem zin_wsL_law_r46 : ∀ w ∈ wsL_law_r46, w ∈ lw_tbl := zplace [1097, 1098, 1099, 1100, 298, 1863, 1864, 1865, 1866, 1867, 1869, 98, 1870, 1871, 1873, 99, 1874, 1875, 1877, 100, 1878, 1879, 1881, 101] (by decide +kernel)
set_option maxRecDepth 20000 in
theorem zin_wsL_law_r47 : ∀ w ∈ wsL_law_r47, w ∈ lw_tbl := zplace [1882, 1101, 1102, 1103, 1104, 450, 1883, 1884, 1885, 1886, 1105, 1106, 1107, 1108, 446, 1887, 1888, 1889, 1890, 1109, 1110, 1111, 1112, 1113] (by decide +kernel)
set_option maxRecDepth 20000 in
theorem zin_wsL_law_r48 : ∀ w ∈ wsL_law_r48, w ∈ lw_tbl := zplace [1114, 1116, 28, 1117, 1891, 1892, 1893, 1894, 1895, 1897, 102, 1898, 1118, 1119, 1120, 1121, 1126, 1122, 1123, 1124, 1125, 291, 1127, 1129] (by decide +kernel)
set_option maxRecDepth 20000 in
theorem zin_wsL_law_r49 : ∀ w ∈ wsL_law_r49, w ∈ lw_tbl := zplace [29, 1130, 1131, 1899, 1900, 1901, 1902, 1903, 1132, 1133, 1134, 1135, 1136, 1137, 1138, 1139, 1140, 1141, 1142, 1904, 1905, 1906, 1907, 1908] (by decide +kernel)
set_option maxRecDepth 20000 in
theorem zin_wsL_law_r50 : ∀ w ∈ wsL_law_r50, w ∈ lw_tbl := zplace [1910, 103, 1911, 1912, 1914, 104, 1915, 1143, 1144, 1145, 1146, 477, 479, 1147, 1148, 1149, 1150, 406, 278, 410, 338, 474, 1151, 1152] (by decide +kernel)
set_option maxRecDepth 20000 in
theorem zin_wsL_law_r51 : ∀ w ∈ wsL_law_r51, w ∈ lw_tbl := zplace [1154, 30, 1155, 389, 471, 416, 1156, 1157, 1159, 31, 1160, 1161, 1162, 1163, 335, 348, 1164, 1165, 1166, 1168, 32, 1169, 445, 478] (by decide +kernel)
set_option maxRecDepth 20000 in
theorem zin_wsL_law_r52 : ∀ w ∈ wsL_law_r52, w ∈ lw_tbl := zplace [1170, 1171, 1916, 1917, 1918, 1919, 1920, 1922, 105, 1923, 1924, 1926, 106, 1927, 1928, 1930, 107, 1931, 1932, 1934, 108, 1935, 1172, 1173] (by decide +kernel)
set_option maxRecDepth 20000 in
theorem zin_wsL_law_r53 : ∀ w ∈ wsL_law_r53, w ∈ lw_tbl := zplace [1174, 1175, 475, 1936, 1937, 1938, 1939, 1176, 1177, 1178, 1179, 540, 538, 536, 1180, 1181, 1182, 1183, 529, 411, 539, 415, 537, 388] (by decide +kernel)
set_option maxRecDepth 20000 in
theorem zin_wsL_law_r54 : ∀ w ∈ wsL_law_r54, w ∈ lw_tbl := zplace [1184, 1185, 1186, 1187, 1188, 1189, 1191, 33, 1192, 534, 1193, 1195, 34, 1196, 334, 347, 1197, 1199, 35, 1200, 1201, 1203, 36, 1204] (by decide +kernel)
set_option maxRecDepth 20000 in
theorem zin_wsL_law_r55 : ∀ w ∈ wsL_law_r55, w ∈ lw_tbl := zplace [1205, 1207, 37, 1208, 1940, 1941, 1942, 1943, 1944, 1946, 109, 1947, 1948, 1950, 110, 1951, 1952, 1954, 111, 1955, 1956, 1958, 112, 1959] (by decide +kernel)
set_option maxRecDepth 20000 in
theorem zin_wsL_law_r56 : ∀ w ∈ wsL_law_r56, w ∈ lw_tbl := zplace [1209, 1210, 1211, 1212, 542, 544, 546, 548, 1213, 1214, 1215, 1216, 541, 543, 1218, 1219, 1220, 1221, 1960, 1961, 1962, 1963, 1964, 1965] (by decide +kernel)
set_option maxRecDepth 20000 in
theorem zin_wsL_law_r57 : ∀ w ∈ wsL_law_r57, w ∈ lw_tbl := zplace [1967, 113, 1968, 1222, 1223, 1224, 1225, 1226, 1228, 38, 1229, 1230, 1232, 39, 1233, 1234, 1969, 1970, 1971, 1972, 1973, 1975, 114, 1976] (by decide +kernel)
set_option maxRecDepth 20000 in
theorem zin_wsL_law_r58 : ∀ w ∈ wsL_law_r58, w ∈ lw_tbl := zplace [1977, 1979, 115, 1980, 1235, 1236, 1237, 1238, 482, 484, 486, 488, 1239, 1240, 1241, 1242, 481, 1243, 1244, 1246, 40, 1247, 1248, 1250] (by decide +kernel)
set_option maxRecDepth 20000 in
theorem zin_wsL_law_r59 : ∀ w ∈ wsL_law_r59, w ∈ lw_tbl := zplace [41, 1251, 1252, 1254, 42, 1255, 1981, 1982, 1983, 1984, 1985, 1987, 116, 1988, 1989, 1991, 117, 1992, 1256, 1257, 1258, 1259, 1260, 1261] (by decide +kernel)
set_option maxRecDepth 20000 in
theorem zin_wsL_law_r60 : ∀ w ∈ wsL_law_r60, w ∈ lw_tbl := zplace [1262, 1263, 1264, 1993, 1994, 1995, 1996, 1265, 1266, 1267, 1268, 1269, 1270, 1271, 1272, 1997, 1998, 1999, 2000, 2001, 2002, 2003, 2004, 1273] (by decide +kernel)
set_option maxRecDepth 20000 in
theorem zin_wsL_law_r61 : ∀ w ∈ wsL_law_r61, w ∈ lw_tbl := zplace [1274, 1275, 1276, 1277, 1278, 1279, 1280, 407, 279, 412, 1281, 1282, 1283, 1285, 43, 1286, 343, 370, 373, 444, 297, 1287, 1288, 1289] (by decide +kernel)
set_option maxRecDepth 20000 in
theorem zin_wsL_law_r62 : ∀ w ∈ wsL_law_r62, w ∈ lw_tbl := zplace [1290, 1291, 1292, 1293, 1294, 1295, 1296, 1297, 1298, 1299, 1300, 2005, 2006, 2007, 2008, 2009, 2011, 118, 2012, 2013, 2014, 2015, 2017, 119] (by decide +kernel)
set_option maxRecDepth 20000 in
theorem zin_wsL_law_r63 : ∀ w ∈ wsL_law_r63, w ∈ lw_tbl := zplace [2018, 2019, 2021, 120, 2022, 1301, 1302, 1303, 1304, 596, 598, 2023, 2024, 2025, 2026, 1305, 1306, 1307, 1308, 619, 617, 1325, 1309, 1310] (by decide +kernel)
set_option maxRecDepth 20000 in
theorem zin_wsL_law_r64 : ∀ w ∈ wsL_law_r64, w ∈ lw_tbl := zplace [1311, 1312, 403, 273, 287, 1315, 1316, 1317, 1313, 1314, 1318, 1320, 1321, 1322, 1323, 2027, 2028, 2029, 2030, 2031, 2032, 2034, 121, 2035] (by decide +kernel)
set_option maxRecDepth 20000 in
theorem zin_wsL_law_r65 : ∀ w ∈ wsL_law_r65, w ∈ lw_tbl := zplace [2036, 2038, 122, 2039, 2040, 2041, 2042, 2043, 2044, 2045, 2046, 2048, 123, 2049, 2050, 2052, 124, 2053, 1326, 1327, 1328, 1329, 2054, 2055] (by decide +kernel)
set_option maxRecDepth 20000 in
theorem zin_wsL_law_r66 : ∀ w ∈ wsL_law_r66, w ∈ lw_tbl := zplace [2056, 2057, 1330, 1331, 1332, 1333, 2058, 2059, 2060, 2061, 1334, 1335, 1336, 1337, 2062, 2063, 2064, 2065, 2066] (by decide +kernel)
set_option maxRecDepth 20000 in
theorem inX0 : ∀ w ∈ wsX00, w ∈ lw_tbl := zplace [599, 601, 603, 605, 607] (by decide +kernel)
set_option maxRecDepth 20000 in
theorem inX1 : ∀ w ∈ wsX10, w ∈ lw_tbl := zplace [489, 491, 493, 495, 497, 499, 501, 503, 505, 507, 509, 511, 513, 515] (by decide +kernel)
set_option maxRecDepth 20000 in
theorem inX2 : ∀ w ∈ wsX20, w ∈ lw_tbl := zplace [350, 352, 354, 356, 358, 360] (by decide +kernel)
set_option maxRecDepth 20000 in
theorem inX3 : ∀ w ∈ wsX30, w ∈ lw_tbl := zplace [549, 551, 553, 555, 557, 559, 561, 563, 565, 567, 569, 571, 573, 575, 577, 579] (by decide +kernel)
set_option maxRecDepth 20000 in
theorem inX4 : ∀ w ∈ wsX40, w ∈ lw_tbl := zplace [306, 308, 310, 312, 314, 316, 318, 320, 322, 324] (by decide +kernel)
set_option maxRecDepth 20000 in
theorem inX5 : ∀ w ∈ wsX50, w ∈ lw_tbl := zplace [250, 252, 254, 256] (by decide +kernel)
set_option maxRecDepth 20000 in
theorem inX6 : ∀ w ∈ wsX60, w ∈ lw_tbl := zplace [377, 379, 381] (by decide +kernel)
set_option maxRecDepth 20000 in
theorem inX7 : ∀ w ∈ wsX70, w ∈ lw_tbl := zplace [451, 453, 455] (by decide +kernel)
set_option maxRecDepth 20000 in
theorem inX8 : ∀ w ∈ wsX80, w ∈ lw_tbl := zplace [620, 622] (by decide +kernel)
set_option maxRecDepth 20000 in
theorem inX9 : ∀ w ∈ wsX90, w ∈ lw_tbl := zplace [418, 420, 422, 424, 426, 428, 430, 432, 434] (by decide +kernel)
set_option maxRecDepth 20000 in
theorem inX10 : ∀ w ∈ wsX100, w ∈ lw_tbl := zplace [225, 227, 229, 231, 233, 235, 237, 239] (by decide +kernel)
set_option maxRecDepth 20000 in
theorem inX11 : ∀ w ∈ wsX110, w ∈ lw_tbl := zplace [641, 643, 645, 647, 649, 651, 653, 655, 657, 659, 661, 663, 665, 667, 669, 671] (by decide +kernel)
set_option maxRecDepth 20000 in
theorem inX12 : ∀ w ∈ wsX120, w ∈ lw_tbl := zplace [1411, 1413, 1415, 1417, 1419, 1421, 1423, 1425, 1427, 1429, 1431, 1433, 1435, 1437, 1439, 1441, 1443, 1445, 1447, 1449, 1451, 1453, 1455, 1457, 1459, 1461, 1463, 1465, 1467, 1469, 1471, 1473, 1475, 1477, 1479, 1481, 1483, 1485, 1487, 1489, 1491, 1493, 1495, 1497, 1499, 1501, 1503, 1505, 1507, 1509, 1511, 1513, 1515, 1517, 1519, 1521, 1523, 1525, 1527, 1529, 1531, 1533, 1535, 1537, 1539, 1541, 1543] (by decide +kernel)
set_option maxRecDepth 20000 in
theorem wsL_law_in : ∀ w ∈ wsL_law, w ∈ lw_tbl := List.forall_mem_append.mpr ⟨List.forall_mem_append.mpr ⟨List.forall_mem_append.mpr ⟨List.forall_mem_append.mpr ⟨List.forall_mem_append.mpr ⟨List.forall_mem_append.mpr ⟨List.forall_mem_append.mpr ⟨List.forall_mem_append.mpr ⟨List.forall_mem_append.mpr ⟨List.forall_mem_append.mpr ⟨List.forall_mem_append.mpr ⟨List.forall_mem_append.mpr ⟨List.forall_mem_append.mpr ⟨List.forall_mem_append.mpr ⟨List.forall_mem_append.mpr ⟨zin_wsL_law_r1, List.forall_mem_append.mpr ⟨zin_wsL_law_r2, List.forall_mem_append.mpr ⟨zin_wsL_law_r3, List.forall_mem_append.mpr ⟨zin_wsL_law_r4, List.forall_mem_append.mpr ⟨zin_wsL_law_r5, List.forall_mem_append.mpr ⟨zin_wsL_law_r6, List.forall_mem_append.mpr ⟨zin_wsL_law_r7, List.forall_mem_append.mpr ⟨zin_wsL_law_r8, List.forall_mem_append.mpr ⟨zin_wsL_law_r9, List.forall_mem_append.mpr ⟨zin_wsL_law_r10, List.forall_mem_append.mpr ⟨zin_wsL_law_r11, List.forall_mem_append.mpr ⟨zin_wsL_law_r12, List.forall_mem_append.mpr ⟨zin_wsL_law_r13, List.forall_mem_append.mpr ⟨zin_wsL_law_r14, List.forall_mem_append.mpr ⟨zin_wsL_law_r15, List.forall_mem_append.mpr ⟨zin_wsL_law_r16, List.forall_mem_append.mpr ⟨zin_wsL_law_r17, List.forall_mem_append.mpr ⟨zin_wsL_law_r18, List.forall_mem_append.mpr ⟨zin_wsL_law_r19, List.forall_mem_append.mpr ⟨zin_wsL_law_r20, List.forall_mem_append.mpr ⟨zin_wsL_law_r21, List.forall_mem_append.mpr ⟨zin_wsL_law_r22, List.forall_mem_append.mpr ⟨zin_wsL_law_r23, List.forall_mem_append.mpr ⟨zin_wsL_law_r24, List.forall_mem_append.mpr ⟨zin_wsL_law_r25, List.forall_mem_append.mpr ⟨zin_wsL_law_r26, List.forall_mem_append.mpr ⟨zin_wsL_law_r27, List.forall_mem_append.mpr ⟨zin_wsL_law_r28, List.forall_mem_append.mpr ⟨zin_wsL_law_r29, List.forall_mem_append.mpr ⟨zin_wsL_law_r30, List.forall_mem_append.mpr ⟨zin_wsL_law_r31, List.forall_mem_append.mpr ⟨zin_wsL_law_r32, List.forall_mem_append.mpr ⟨zin_wsL_law_r33, List.forall_mem_append.mpr ⟨zin_wsL_law_r34, List.forall_mem_append.mpr ⟨zin_wsL_law_r35, List.forall_mem_append.mpr ⟨zin_wsL_law_r36, List.forall_mem_append.mpr ⟨zin_wsL_law_r37, List.forall_mem_append.mpr ⟨zin_wsL_law_r38, List.forall_mem_append.mpr ⟨zin_wsL_law_r39, List.forall_mem_append.mpr ⟨zin_wsL_law_r40, List.forall_mem_append.mpr ⟨zin_wsL_law_r41, List.forall_mem_append.mpr ⟨zin_wsL_law_r42, List.forall_mem_append.mpr ⟨zin_wsL_law_r43, List.forall_mem_append.mpr ⟨zin_wsL_law_r44, List.forall_mem_append.mpr ⟨zin_wsL_law_r45, List.forall_mem_append.mpr ⟨zin_wsL_law_r46, List.forall_mem_append.mpr ⟨zin_wsL_law_r47, List.forall_mem_append.mpr ⟨zin_wsL_law_r48, List.forall_mem_append.mpr ⟨zin_wsL_law_r49, List.forall_mem_append.mpr ⟨zin_wsL_law_r50, List.forall_mem_append.mpr ⟨zin_wsL_law_r51, List.forall_mem_append.mpr ⟨zin_wsL_law_r52, List.forall_mem_append.mpr ⟨zin_wsL_law_r53, List.forall_mem_append.mpr ⟨zin_wsL_law_r54, List.forall_mem_append.mpr ⟨zin_wsL_law_r55, List.forall_mem_append.mpr ⟨zin_wsL_law_r56, List.forall_mem_append.mpr ⟨zin_wsL_law_r57, List.forall_mem_append.mpr ⟨zin_wsL_law_r58, List.forall_mem_append.mpr ⟨zin_wsL_law_r59, List.forall_mem_append.mpr ⟨zin_wsL_law_r60, List.forall_mem_append.mpr ⟨zin_wsL_law_r61, List.forall_mem_append.mpr ⟨zin_wsL_law_r62, List.forall_mem_append.mpr ⟨zin_wsL_law_r63, List.forall_mem_append.mpr ⟨zin_wsL_law_r64, List.forall_mem_append.mpr ⟨zin_wsL_law_r65, zin_wsL_law_r66⟩⟩⟩⟩⟩⟩⟩⟩⟩⟩⟩⟩⟩⟩⟩⟩⟩⟩⟩⟩⟩⟩⟩⟩⟩⟩⟩⟩⟩⟩⟩⟩⟩⟩⟩⟩⟩⟩⟩⟩⟩⟩⟩⟩⟩⟩⟩⟩⟩⟩⟩⟩⟩⟩⟩⟩⟩⟩⟩⟩⟩⟩⟩⟩⟩, inX11⟩, inX12⟩, inX5⟩, inX9⟩, inX7⟩, inX6⟩, inX1⟩, inX3⟩, inX0⟩, inX8⟩, inX10⟩, inX4⟩, inX2⟩, fun _ h => absurd h List.not_mem_nil⟩
