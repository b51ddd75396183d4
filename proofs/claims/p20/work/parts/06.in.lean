theorem mem_r {big : List Cond} (ws : List Cond) (ps : List Nat) (hp : ws = ps.filterMap (fun i => big[i]?)) : ∀ w ∈ ws, w ∈ big := by
  intro w hw
  rw [hp] at hw
  obtain ⟨i, -, hi⟩ := List.mem_filterMap.mp hw
  exact List.mem_of_getElem? hi
set_option maxRecDepth 20000 in
theorem wl_in_1 : ∀ w ∈ wsL_law_r1, w ∈ lw_tbl := mem_r wsL_law_r1 [142, 143, 122, 1402, 1403, 133, 2089, 144, 145, 146, 147, 148, 149, 150, 598, 179, 599, 152, 153, 123, 600, 320, 321, 126] (by decide +kernel)
set_option maxRecDepth 20000 in
theorem wl_in_2 : ∀ w ∈ wsL_law_r2, w ∈ lw_tbl := mem_r wsL_law_r2 [601, 602, 385, 386, 128, 603, 416, 417, 129, 604, 579, 159, 124, 605, 272, 606, 607, 608, 609, 610, 611, 612, 613, 614] (by decide +kernel)
set_option maxRecDepth 20000 in
theorem wl_in_3 : ∀ w ∈ wsL_law_r3, w ∈ lw_tbl := mem_r wsL_law_r3 [581, 132, 155, 156, 157, 158, 273, 181, 182, 125, 275, 277, 279, 281, 282, 283, 180, 284, 285, 286, 287, 288, 289, 290] (by decide +kernel)
set_option maxRecDepth 20000 in
theorem wl_in_4 : ∀ w ∈ wsL_law_r4, w ∈ lw_tbl := mem_r wsL_law_r4 [161, 162, 163, 164, 168, 184, 185, 186, 187, 190, 192, 194, 196, 198, 199, 200, 203, 205, 207, 211, 213, 215, 218, 219] (by decide +kernel)
set_option maxRecDepth 20000 in
theorem wl_in_5 : ∀ w ∈ wsL_law_r5, w ∈ lw_tbl := mem_r wsL_law_r5 [223, 226, 230, 322, 323, 324, 325, 326, 357, 328, 359, 330, 361, 363, 364, 365, 367, 333, 127, 334, 335, 336, 337, 338] (by decide +kernel)
set_option maxRecDepth 20000 in
theorem wl_in_6 : ∀ w ∈ wsL_law_r6, w ∈ lw_tbl := mem_r wsL_law_r6 [340, 343, 347, 387, 388, 389, 390, 391, 393, 395, 415, 398, 400, 401, 418, 419, 420, 421, 422, 517, 519, 521, 523, 525] (by decide +kernel)
set_option maxRecDepth 20000 in
theorem wl_in_7 : ∀ w ∈ wsL_law_r7, w ∈ lw_tbl := mem_r wsL_law_r7 [527, 529, 531, 533, 535, 537, 424, 539, 425, 540, 541, 542, 543, 427, 429, 130, 476, 477, 131, 515, 430, 431, 432, 433] (by decide +kernel)
set_option maxRecDepth 20000 in
theorem wl_in_8 : ∀ w ∈ wsL_law_r8, w ∈ lw_tbl := mem_r wsL_law_r8 [439, 443, 445, 448, 451, 454, 455, 435, 436, 475, 478, 479, 480, 481, 482, 484, 487, 490, 492, 497, 494, 434, 495, 496] (by decide +kernel)
set_option maxRecDepth 20000 in
theorem wl_in_9 : ∀ w ∈ wsL_law_r9, w ∈ lw_tbl := mem_r wsL_law_r9 [583, 584, 585, 586, 588, 589, 1404, 1405, 1406, 1407, 1409, 1412, 1413, 1414, 1415, 1416, 1417, 1424, 1425, 1427, 1430, 1431, 1432, 1433] (by decide +kernel)
set_option maxRecDepth 20000 in
theorem wl_in_10 : ∀ w ∈ wsL_law_r10, w ∈ lw_tbl := mem_r wsL_law_r10 [1434, 1435, 1436, 1439, 1441, 1443, 1449, 1450, 1452, 1457, 1458, 1459, 1461, 1462, 1408, 1464, 1465, 1467, 1468, 1469, 1471, 1472, 650, 651] (by decide +kernel)
set_option maxRecDepth 20000 in
theorem wl_in_11 : ∀ w ∈ wsL_law_r11, w ∈ lw_tbl := mem_r wsL_law_r11 [652, 653, 1605, 1606, 1607, 1608, 1410, 654, 655, 656, 657, 1609, 1610, 1611, 1612, 1411, 658, 659, 660, 661, 1613, 1614, 1615, 1616] (by decide +kernel)
set_option maxRecDepth 20000 in
theorem wl_in_12 : ∀ w ∈ wsL_law_r12, w ∈ lw_tbl := mem_r wsL_law_r12 [662, 663, 664, 665, 666, 667, 668, 669, 671, 0, 672, 673, 674, 675, 676, 1617, 1618, 1619, 1620, 1621, 1622, 1623, 1624, 1626] (by decide +kernel)
set_option maxRecDepth 20000 in
theorem wl_in_13 : ∀ w ∈ wsL_law_r13, w ∈ lw_tbl := mem_r wsL_law_r13 [63, 1627, 677, 678, 679, 680, 681, 683, 1, 684, 685, 686, 687, 688, 689, 690, 691, 692, 693, 694, 695, 696, 697, 698] (by decide +kernel)
set_option maxRecDepth 20000 in
theorem wl_in_14 : ∀ w ∈ wsL_law_r14, w ∈ lw_tbl := mem_r wsL_law_r14 [700, 2, 701, 1628, 1629, 1630, 1631, 1632, 1634, 64, 1635, 1636, 1637, 1638, 702, 703, 704, 705, 711, 706, 707, 708, 709, 710] (by decide +kernel)
set_option maxRecDepth 20000 in
theorem wl_in_15 : ∀ w ∈ wsL_law_r15, w ∈ lw_tbl := mem_r wsL_law_r15 [1639, 1640, 1641, 1642, 1643, 712, 713, 714, 715, 590, 587, 716, 718, 717, 134, 1644, 1645, 1646, 1647, 719, 720, 721, 722, 723] (by decide +kernel)
set_option maxRecDepth 20000 in
theorem wl_in_16 : ∀ w ∈ wsL_law_r16, w ∈ lw_tbl := mem_r wsL_law_r16 [725, 3, 726, 1648, 1649, 1650, 1651, 1418, 1652, 1654, 65, 1655, 727, 728, 729, 730, 366, 274, 731, 733, 4, 734, 735, 736] (by decide +kernel)
set_option maxRecDepth 20000 in
theorem wl_in_17 : ∀ w ∈ wsL_law_r17, w ∈ lw_tbl := mem_r wsL_law_r17 [737, 738, 169, 739, 741, 5, 742, 743, 745, 6, 746, 747, 748, 749, 750, 752, 7, 753, 754, 756, 8, 757, 758, 759] (by decide +kernel)
set_option maxRecDepth 20000 in
theorem wl_in_18 : ∀ w ∈ wsL_law_r18, w ∈ lw_tbl := mem_r wsL_law_r18 [760, 762, 9, 763, 764, 765, 766, 767, 768, 770, 10, 771, 772, 774, 11, 775, 776, 778, 12, 779, 780, 781, 782, 783] (by decide +kernel)
set_option maxRecDepth 20000 in
theorem wl_in_19 : ∀ w ∈ wsL_law_r19, w ∈ lw_tbl := mem_r wsL_law_r19 [784, 785, 786, 787, 788, 789, 790, 791, 792, 793, 794, 796, 13, 797, 1656, 1657, 1658, 1659, 1426, 1697, 1660, 1662, 66, 1663] (by decide +kernel)
set_option maxRecDepth 20000 in
theorem wl_in_20 : ∀ w ∈ wsL_law_r20, w ∈ lw_tbl := mem_r wsL_law_r20 [1664, 1666, 67, 1667, 1419, 1422, 1668, 1670, 68, 1671, 1420, 1421, 1672, 1674, 69, 1675, 1423, 1686, 1687, 135, 1688, 1676, 1678, 70] (by decide +kernel)
set_option maxRecDepth 20000 in
theorem wl_in_21 : ∀ w ∈ wsL_law_r21, w ∈ lw_tbl := mem_r wsL_law_r21 [1679, 1680, 1681, 1682, 1683, 1684, 1685, 1689, 1691, 71, 1692, 1693, 1695, 72, 1696, 1698, 1700, 73, 1701, 1702, 1704, 74, 1705, 798] (by decide +kernel)
set_option maxRecDepth 20000 in
theorem wl_in_22 : ∀ w ∈ wsL_law_r22, w ∈ lw_tbl := mem_r wsL_law_r22 [799, 800, 801, 358, 276, 360, 228, 802, 803, 804, 805, 806, 807, 808, 813, 844, 858, 859, 904, 809, 810, 811, 812, 814] (by decide +kernel)
set_option maxRecDepth 20000 in
theorem wl_in_23 : ∀ w ∈ wsL_law_r23, w ∈ lw_tbl := mem_r wsL_law_r23 [816, 14, 817, 818, 820, 15, 821, 225, 822, 824, 16, 825, 826, 828, 830, 17, 831, 832, 833, 834, 835, 836, 837, 838] (by decide +kernel)
set_option maxRecDepth 20000 in
theorem wl_in_24 : ∀ w ∈ wsL_law_r24, w ∈ lw_tbl := mem_r wsL_law_r24 [839, 840, 842, 18, 843, 845, 847, 19, 848, 222, 853, 849, 850, 851, 852, 854, 855, 856, 857, 860, 862, 20, 863, 229] (by decide +kernel)
set_option maxRecDepth 20000 in
theorem wl_in_25 : ∀ w ∈ wsL_law_r25, w ∈ lw_tbl := mem_r wsL_law_r25 [881, 864, 865, 866, 867, 868, 870, 21, 871, 872, 873, 874, 875, 876, 877, 879, 22, 880, 882, 884, 23, 885, 886, 210] (by decide +kernel)
set_option maxRecDepth 20000 in
theorem wl_in_26 : ∀ w ∈ wsL_law_r26, w ∈ lw_tbl := mem_r wsL_law_r26 [903, 887, 889, 24, 890, 891, 893, 25, 894, 895, 896, 897, 898, 899, 900, 901, 902, 905, 907, 26, 908, 909, 911, 27] (by decide +kernel)
set_option maxRecDepth 20000 in
theorem wl_in_27 : ∀ w ∈ wsL_law_r27, w ∈ lw_tbl := mem_r wsL_law_r27 [912, 217, 913, 914, 915, 916, 1718, 1719, 1720, 1721, 1429, 1722, 1724, 77, 1725, 1726, 1728, 78, 1729, 1730, 1732, 79, 1733, 1735] (by decide +kernel)
set_option maxRecDepth 20000 in
theorem wl_in_28 : ∀ w ∈ wsL_law_r28, w ∈ lw_tbl := mem_r wsL_law_r28 [1736, 1737, 136, 1738, 2090, 1739, 1740, 1741, 1742, 1743, 2091, 1745, 1746, 1747, 1748, 1749, 1750, 1751, 1752, 1753, 1754, 137, 1755, 1756] (by decide +kernel)
set_option maxRecDepth 20000 in
theorem wl_in_29 : ∀ w ∈ wsL_law_r29, w ∈ lw_tbl := mem_r wsL_law_r29 [1757, 1758, 1759, 1761, 1762, 138, 1763, 1764, 1765, 139, 1766, 1767, 1768, 1769, 1770, 1771, 1772, 1773, 1774, 1775, 1776, 1777, 1779, 1781] (by decide +kernel)
set_option maxRecDepth 20000 in
theorem wl_in_30 : ∀ w ∈ wsL_law_r30, w ∈ lw_tbl := mem_r wsL_law_r30 [1783, 1785, 80, 1786, 1787, 1789, 81, 1790, 1791, 1793, 82, 1794, 1795, 1797, 83, 1798, 1799, 1801, 84, 1802, 1803, 1805, 85, 1806] (by decide +kernel)
set_option maxRecDepth 20000 in
theorem wl_in_31 : ∀ w ∈ wsL_law_r31, w ∈ lw_tbl := mem_r wsL_law_r31 [1428, 1811, 1812, 1807, 1809, 86, 1810, 1813, 1815, 87, 1816, 1822, 1817, 1819, 88, 1820, 1821, 1823, 1825, 89, 1826, 1827, 1829, 90] (by decide +kernel)
set_option maxRecDepth 20000 in
theorem wl_in_32 : ∀ w ∈ wsL_law_r32, w ∈ lw_tbl := mem_r wsL_law_r32 [1830, 1831, 1833, 91, 1834, 1835, 1837, 92, 1838, 917, 918, 919, 920, 278, 280, 1839, 1840, 1841, 1842, 921, 922, 923, 924, 368] (by decide +kernel)
set_option maxRecDepth 20000 in
theorem wl_in_33 : ∀ w ∈ wsL_law_r33, w ∈ lw_tbl := mem_r wsL_law_r33 [402, 2069, 2070, 2071, 2072, 1460, 925, 926, 927, 928, 362, 929, 931, 28, 932, 933, 935, 29, 936, 173, 937, 938, 939, 940] (by decide +kernel)
set_option maxRecDepth 20000 in
theorem wl_in_34 : ∀ w ∈ wsL_law_r34, w ∈ lw_tbl := mem_r wsL_law_r34 [941, 1706, 1707, 1708, 1709, 1710, 1712, 75, 1713, 1714, 1716, 76, 1717, 942, 943, 944, 945, 221, 224, 346, 1843, 1844, 1845, 1846] (by decide +kernel)
set_option maxRecDepth 20000 in
theorem wl_in_35 : ∀ w ∈ wsL_law_r35, w ∈ lw_tbl := mem_r wsL_law_r35 [946, 947, 948, 949, 202, 232, 209, 950, 952, 30, 953, 954, 955, 956, 957, 958, 1847, 1848, 1849, 1850, 959, 960, 961, 962] (by decide +kernel)
set_option maxRecDepth 20000 in
theorem wl_in_36 : ∀ w ∈ wsL_law_r36, w ∈ lw_tbl := mem_r wsL_law_r36 [518, 442, 453, 963, 964, 965, 966, 220, 191, 227, 967, 968, 969, 970, 971, 973, 31, 974, 975, 977, 32, 978, 193, 979] (by decide +kernel)
set_option maxRecDepth 20000 in
theorem wl_in_37 : ∀ w ∈ wsL_law_r37, w ∈ lw_tbl := mem_r wsL_law_r37 [981, 33, 982, 204, 206, 172, 188, 983, 985, 34, 986, 987, 988, 167, 989, 991, 35, 992, 993, 994, 995, 996, 1851, 1852] (by decide +kernel)
set_option maxRecDepth 20000 in
theorem wl_in_38 : ∀ w ∈ wsL_law_r38, w ∈ lw_tbl := mem_r wsL_law_r38 [1853, 1854, 1855, 1857, 93, 1858, 1437, 1859, 1861, 94, 1862, 1440, 997, 998, 999, 1000, 1001, 1002, 1003, 1004, 1005, 1006, 1863, 1864] (by decide +kernel)
set_option maxRecDepth 20000 in
theorem wl_in_39 : ∀ w ∈ wsL_law_r39, w ∈ lw_tbl := mem_r wsL_law_r39 [1865, 1866, 1007, 1008, 1009, 1010, 1011, 1012, 1013, 1014, 1015, 1016, 1017, 1018, 1019, 1867, 1868, 1869, 1870, 1871, 1872, 1873, 1874, 1875] (by decide +kernel)
set_option maxRecDepth 20000 in
theorem wl_in_40 : ∀ w ∈ wsL_law_r40, w ∈ lw_tbl := mem_r wsL_law_r40 [1876, 1877, 1879, 95, 1880, 1020, 1021, 1022, 1023, 1881, 1882, 1883, 1884, 1024, 1025, 1026, 1027, 516, 447, 450, 486, 489, 1028, 1029] (by decide +kernel)
set_option maxRecDepth 20000 in
theorem wl_in_41 : ∀ w ∈ wsL_law_r41, w ∈ lw_tbl := mem_r wsL_law_r41 [1030, 1031, 440, 1032, 1033, 1035, 36, 1036, 201, 1037, 1039, 37, 1040, 231, 195, 197, 1041, 1043, 38, 1044, 444, 1045, 1046, 1047] (by decide +kernel)
set_option maxRecDepth 20000 in
theorem wl_in_42 : ∀ w ∈ wsL_law_r42, w ∈ lw_tbl := mem_r wsL_law_r42 [1048, 1049, 1051, 39, 1052, 1053, 1055, 40, 1056, 212, 214, 189, 452, 438, 1057, 1058, 1059, 1060, 1061, 1062, 1064, 41, 1065, 1066] (by decide +kernel)
set_option maxRecDepth 20000 in
theorem wl_in_43 : ∀ w ∈ wsL_law_r43, w ∈ lw_tbl := mem_r wsL_law_r43 [1068, 42, 1069, 1070, 1072, 43, 1073, 208, 216, 1074, 1075, 1076, 1077, 1079, 1078, 1080, 1081, 1082, 1083, 1084, 1086, 44, 1087, 1088] (by decide +kernel)
set_option maxRecDepth 20000 in
theorem wl_in_44 : ∀ w ∈ wsL_law_r44, w ∈ lw_tbl := mem_r wsL_law_r44 [1090, 45, 1091, 345, 1092, 1093, 1094, 1095, 1096, 1097, 1885, 1886, 1887, 1888, 1438, 1451, 1444, 1445, 1453, 1446, 1454, 1447, 1455, 1448] (by decide +kernel)
set_option maxRecDepth 20000 in
theorem wl_in_45 : ∀ w ∈ wsL_law_r45, w ∈ lw_tbl := mem_r wsL_law_r45 [1456, 1889, 1891, 96, 1892, 1893, 1895, 97, 1896, 1897, 1899, 98, 1900, 1901, 1903, 99, 1904, 1442, 1905, 1907, 100, 1908, 1909, 1911] (by decide +kernel)
set_option maxRecDepth 20000 in
theorem wl_in_46 : ∀ w ∈ wsL_law_r46, w ∈ lw_tbl := mem_r wsL_law_r46 [101, 1912, 1913, 1915, 102, 1916, 1917, 1919, 103, 1920, 1921, 1922, 1924, 104, 1925, 1926, 1928, 105, 1929, 1930, 1932, 106, 1933, 1934] (by decide +kernel)
set_option maxRecDepth 20000 in
theorem wl_in_47 : ∀ w ∈ wsL_law_r47, w ∈ lw_tbl := mem_r wsL_law_r47 [1936, 107, 1937, 1938, 1940, 108, 1941, 1098, 1099, 1100, 1101, 1942, 1943, 1944, 1945, 1102, 1103, 1104, 1105, 1946, 1947, 1948, 1949, 1106] (by decide +kernel)
set_option maxRecDepth 20000 in
theorem wl_in_48 : ∀ w ∈ wsL_law_r48, w ∈ lw_tbl := mem_r wsL_law_r48 [1107, 1108, 1109, 342, 1950, 1951, 1952, 1953, 1110, 1111, 1112, 1113, 1114, 1116, 46, 1117, 1118, 1119, 1120, 1121, 1123, 47, 1124, 1125] (by decide +kernel)
set_option maxRecDepth 20000 in
theorem wl_in_49 : ∀ w ∈ wsL_law_r49, w ∈ lw_tbl := mem_r wsL_law_r49 [1127, 48, 1128, 1129, 1130, 1131, 1132, 446, 449, 437, 485, 488, 1133, 1134, 1135, 1136, 1137, 1138, 1139, 1140, 1141, 1142, 1143, 1144] (by decide +kernel)
set_option maxRecDepth 20000 in
theorem wl_in_50 : ∀ w ∈ wsL_law_r50, w ∈ lw_tbl := mem_r wsL_law_r50 [1145, 1146, 1147, 1954, 1955, 1956, 1957, 1958, 1960, 109, 1961, 1962, 1964, 110, 1965, 1966, 1968, 111, 1969, 1148, 1149, 1150, 1151, 397] (by decide +kernel)
set_option maxRecDepth 20000 in
theorem wl_in_51 : ∀ w ∈ wsL_law_r51, w ∈ lw_tbl := mem_r wsL_law_r51 [1970, 1971, 1972, 1973, 1152, 1153, 1154, 1155, 522, 520, 524, 1156, 1157, 1158, 1159, 1160, 1162, 49, 1163, 1164, 1165, 1166, 1167, 1168] (by decide +kernel)
set_option maxRecDepth 20000 in
theorem wl_in_52 : ∀ w ∈ wsL_law_r52, w ∈ lw_tbl := mem_r wsL_law_r52 [1169, 1170, 1171, 1974, 1975, 1976, 1977, 1463, 1978, 1980, 112, 1981, 1172, 1173, 1174, 1175, 1982, 1983, 1984, 1985, 1176, 1177, 1178, 1179] (by decide +kernel)
set_option maxRecDepth 20000 in
theorem wl_in_53 : ∀ w ∈ wsL_law_r53, w ∈ lw_tbl := mem_r wsL_law_r53 [1180, 1181, 1182, 1183, 1184, 1185, 140, 1187, 1188, 1189, 1190, 1191, 1192, 1193, 1194, 1204, 1205, 1206, 1207, 1208, 1209, 1210, 1211, 1212] (by decide +kernel)
set_option maxRecDepth 20000 in
theorem wl_in_54 : ∀ w ∈ wsL_law_r54, w ∈ lw_tbl := mem_r wsL_law_r54 [348, 1213, 1215, 50, 1216, 1217, 1219, 51, 1220, 170, 165, 1221, 1223, 52, 1224, 344, 341, 1225, 1226, 1227, 1228, 1229, 1230, 1232] (by decide +kernel)
set_option maxRecDepth 20000 in
theorem wl_in_55 : ∀ w ∈ wsL_law_r55, w ∈ lw_tbl := mem_r wsL_law_r55 [53, 1233, 1234, 1236, 54, 1237, 1986, 1987, 1988, 1989, 1466, 1990, 1992, 113, 1993, 1994, 1996, 114, 1997, 1238, 1239, 1240, 1241, 528] (by decide +kernel)
set_option maxRecDepth 20000 in
theorem wl_in_56 : ∀ w ∈ wsL_law_r56, w ∈ lw_tbl := mem_r wsL_law_r56 [526, 1998, 1999, 2000, 2001, 1242, 1243, 1244, 1245, 1246, 1247, 1248, 1249, 2002, 2003, 2004, 2005, 1250, 1251, 1252, 1253, 1254, 1255, 1256] (by decide +kernel)
set_option maxRecDepth 20000 in
theorem wl_in_57 : ∀ w ∈ wsL_law_r57, w ∈ lw_tbl := mem_r wsL_law_r57 [1257, 1258, 1259, 1260, 1261, 171, 166, 2006, 2007, 2008, 2009, 2010, 2012, 115, 2013, 2014, 2016, 116, 2017, 1262, 1263, 1264, 1265, 530] (by decide +kernel)
set_option maxRecDepth 20000 in
theorem wl_in_58 : ∀ w ∈ wsL_law_r58, w ∈ lw_tbl := mem_r wsL_law_r58 [532, 1266, 1267, 1268, 1269, 491, 1270, 1271, 1273, 55, 1274, 1275, 1276, 1277, 1278, 493, 2018, 2019, 2020, 2021, 1279, 1280, 1281, 1282] (by decide +kernel)
set_option maxRecDepth 20000 in
theorem wl_in_59 : ∀ w ∈ wsL_law_r59, w ∈ lw_tbl := mem_r wsL_law_r59 [1283, 1284, 1285, 1286, 1287, 1289, 56, 1290, 1291, 2022, 2023, 2024, 2025, 2026, 2028, 117, 2029, 1292, 1293, 1294, 1295, 1296, 1297, 1298] (by decide +kernel)
set_option maxRecDepth 20000 in
theorem wl_in_60 : ∀ w ∈ wsL_law_r60, w ∈ lw_tbl := mem_r wsL_law_r60 [1299, 1300, 1302, 57, 1303, 2030, 2031, 2032, 2033, 1304, 1305, 1306, 1307, 1308, 1309, 1310, 1311, 1312, 1313, 1314, 1315, 1316, 2034, 2035] (by decide +kernel)
set_option maxRecDepth 20000 in
theorem wl_in_61 : ∀ w ∈ wsL_law_r61, w ∈ lw_tbl := mem_r wsL_law_r61 [2036, 2037, 2038, 2040, 118, 2041, 1317, 1318, 1319, 1320, 1321, 1322, 1323, 1324, 441, 1325, 1326, 141, 1327, 1328, 1329, 1330, 1331, 1333] (by decide +kernel)
set_option maxRecDepth 20000 in
theorem wl_in_62 : ∀ w ∈ wsL_law_r62, w ∈ lw_tbl := mem_r wsL_law_r62 [58, 1334, 2042, 2043, 2044, 2045, 2046, 2047, 2048, 2049, 2051, 119, 2052, 1335, 1336, 1337, 1338, 534, 2053, 2054, 2055, 2056, 1339, 1340] (by decide +kernel)
set_option maxRecDepth 20000 in
theorem wl_in_63 : ∀ w ∈ wsL_law_r63, w ∈ lw_tbl := mem_r wsL_law_r63 [1341, 1342, 394, 1343, 1344, 1345, 1346, 1347, 1349, 59, 1350, 403, 396, 1351, 1353, 60, 1354, 1355, 1357, 61, 1358, 1359, 1361, 62] (by decide +kernel)
set_option maxRecDepth 20000 in
theorem wl_in_64 : ∀ w ∈ wsL_law_r64, w ∈ lw_tbl := mem_r wsL_law_r64 [1362, 2057, 2058, 2059, 2060, 1470, 2061, 2063, 120, 2064, 1363, 1364, 1365, 1366, 536, 538, 2065, 2066, 2067, 2068, 1367, 1368, 1369, 1370] (by decide +kernel)
set_option maxRecDepth 20000 in
theorem wl_in_65 : ∀ w ∈ wsL_law_r65, w ∈ lw_tbl := mem_r wsL_law_r65 [399, 2073, 2074, 2075, 2076, 1371, 1372, 1373, 1374, 1375, 1376, 1377, 1378, 1379, 1380, 1381, 1382, 2077, 2078, 2079, 2080, 1383, 1384, 1385] (by decide +kernel)
set_option maxRecDepth 20000 in
theorem wl_in_66 : ∀ w ∈ wsL_law_r66, w ∈ lw_tbl := mem_r wsL_law_r66 [1386, 1387, 1388, 1389, 1390, 1397, 1391, 1392, 1393, 1394, 1395, 1396, 2081, 2082, 2083, 2084, 1473, 1398, 1399, 1400, 1401, 2085, 2086, 2087] (by decide +kernel)
set_option maxRecDepth 20000 in
theorem wl_in_67 : ∀ w ∈ wsL_law_r67, w ∈ lw_tbl := mem_r wsL_law_r67 [2088] (by decide +kernel)
set_option maxRecDepth 20000 in
theorem wl_inX0 : ∀ w ∈ wsX00, w ∈ lw_tbl := mem_r wsX00 [369, 371, 373, 375, 377, 379, 381] (by decide +kernel)
set_option maxRecDepth 20000 in
theorem wl_inX1 : ∀ w ∈ wsX10, w ∈ lw_tbl := mem_r wsX10 [456, 458, 460, 462, 464, 466, 468, 470, 472] (by decide +kernel)
set_option maxRecDepth 20000 in
theorem wl_inX2 : ∀ w ∈ wsX20, w ∈ lw_tbl := mem_r wsX20 [1195, 1197, 1199, 1201] (by decide +kernel)
set_option maxRecDepth 20000 in
theorem wl_inX3 : ∀ w ∈ wsX30, w ∈ lw_tbl := mem_r wsX30 [291, 293, 295, 297, 299, 301, 303, 305, 307, 309, 311, 313, 315, 317] (by decide +kernel)
set_option maxRecDepth 20000 in
theorem wl_inX4 : ∀ w ∈ wsX40, w ∈ lw_tbl := mem_r wsX40 [174, 176] (by decide +kernel)
set_option maxRecDepth 20000 in
theorem wl_inX5 : ∀ w ∈ wsX50, w ∈ lw_tbl := mem_r wsX50 [498, 500, 502, 504, 506, 508, 510, 512] (by decide +kernel)
set_option maxRecDepth 20000 in
theorem wl_inX6 : ∀ w ∈ wsX60, w ∈ lw_tbl := mem_r wsX60 [233, 235, 237, 239, 241, 243, 245, 247, 249, 251, 253, 255, 257, 259, 261, 263, 265, 267, 269] (by decide +kernel)
set_option maxRecDepth 20000 in
theorem wl_inX7 : ∀ w ∈ wsX70, w ∈ lw_tbl := mem_r wsX70 [544, 546, 548, 550, 552, 554, 556, 558, 560, 562, 564, 566, 568, 570, 572, 574, 576] (by decide +kernel)
set_option maxRecDepth 20000 in
theorem wl_inX8 : ∀ w ∈ wsX80, w ∈ lw_tbl := mem_r wsX80 [349, 351, 353] (by decide +kernel)
set_option maxRecDepth 20000 in
theorem wl_inX9 : ∀ w ∈ wsX90, w ∈ lw_tbl := mem_r wsX90 [404, 406, 408, 410, 412] (by decide +kernel)
set_option maxRecDepth 20000 in
theorem wl_inX10 : ∀ w ∈ wsX100, w ∈ lw_tbl := mem_r wsX100 [591, 593, 595] (by decide +kernel)
set_option maxRecDepth 20000 in
theorem wl_inX11 : ∀ w ∈ wsX110, w ∈ lw_tbl := mem_r wsX110 [615, 617, 619, 621, 623, 625, 627, 629, 631, 633, 635, 637, 639, 641, 643, 645, 647] (by decide +kernel)
set_option maxRecDepth 20000 in
theorem wl_inX12 : ∀ w ∈ wsX120, w ∈ lw_tbl := mem_r wsX120 [1474, 1476, 1478, 1480, 1482, 1484, 1486, 1488, 1490, 1492, 1494, 1496, 1498, 1500, 1502, 1504, 1506, 1508, 1510, 1512, 1514, 1516, 1518, 1520, 1522, 1524, 1526, 1528, 1530, 1532, 1534, 1536, 1538, 1540, 1542, 1544, 1546, 1548, 1550, 1552, 1554, 1556, 1558, 1560, 1562, 1564, 1566, 1568, 1570, 1572, 1574, 1576, 1578, 1580, 1582, 1584, 1586, 1588, 1590, 1592, 1594, 1596, 1598, 1600, 1602] (by decide +kernel)
theorem wsL_law_in : ∀ w ∈ wsL_law, w ∈ lw_tbl := by
  intro w h
  refine (List.mem_append.mp h).elim (fun h => ?_) (fun h => absurd h List.not_mem_nil)
  refine (List.mem_append.mp h).elim (fun h => ?_) (wl_inX2 w)
  refine (List.mem_append.mp h).elim (fun h => ?_) (wl_inX5 w)
  refine (List.mem_append.mp h).elim (fun h => ?_) (wl_inX1 w)
  refine (List.mem_append.mp h).elim (fun h => ?_) (wl_inX8 w)
  refine (List.mem_append.mp h).elim (fun h => ?_) (wl_inX6 w)
  refine (List.mem_append.mp h).elim (fun h => ?_) (wl_inX10 w)
  refine (List.mem_append.mp h).elim (fun h => ?_) (wl_inX4 w)
  refine (List.mem_append.mp h).elim (fun h => ?_) (wl_inX7 w)
  refine (List.mem_append.mp h).elim (fun h => ?_) (wl_inX9 w)
  refine (List.mem_append.mp h).elim (fun h => ?_) (wl_inX0 w)
  refine (List.mem_append.mp h).elim (fun h => ?_) (wl_inX3 w)
  refine (List.mem_append.mp h).elim (fun h => ?_) (wl_inX12 w)
  refine (List.mem_append.mp h).elim (fun h => ?_) (wl_inX11 w)
  refine (List.mem_append.mp h).elim (wl_in_1 w) (fun h => ?_)
  refine (List.mem_append.mp h).elim (wl_in_2 w) (fun h => ?_)
  refine (List.mem_append.mp h).elim (wl_in_3 w) (fun h => ?_)
  refine (List.mem_append.mp h).elim (wl_in_4 w) (fun h => ?_)
  refine (List.mem_append.mp h).elim (wl_in_5 w) (fun h => ?_)
  refine (List.mem_append.mp h).elim (wl_in_6 w) (fun h => ?_)
  refine (List.mem_append.mp h).elim (wl_in_7 w) (fun h => ?_)
  refine (List.mem_append.mp h).elim (wl_in_8 w) (fun h => ?_)
  refine (List.mem_append.mp h).elim (wl_in_9 w) (fun h => ?_)
  refine (List.mem_append.mp h).elim (wl_in_10 w) (fun h => ?_)
  refine (List.mem_append.mp h).elim (wl_in_11 w) (fun h => ?_)
  refine (List.mem_append.mp h).elim (wl_in_12 w) (fun h => ?_)
  refine (List.mem_append.mp h).elim (wl_in_13 w) (fun h => ?_)
  refine (List.mem_append.mp h).elim (wl_in_14 w) (fun h => ?_)
  refine (List.mem_append.mp h).elim (wl_in_15 w) (fun h => ?_)
  refine (List.mem_append.mp h).elim (wl_in_16 w) (fun h => ?_)
  refine (List.mem_append.mp h).elim (wl_in_17 w) (fun h => ?_)
  refine (List.mem_append.mp h).elim (wl_in_18 w) (fun h => ?_)
  refine (List.mem_append.mp h).elim (wl_in_19 w) (fun h => ?_)
  refine (List.mem_append.mp h).elim (wl_in_20 w) (fun h => ?_)
  refine (List.mem_append.mp h).elim (wl_in_21 w) (fun h => ?_)
  refine (List.mem_append.mp h).elim (wl_in_22 w) (fun h => ?_)
  refine (List.mem_append.mp h).elim (wl_in_23 w) (fun h => ?_)
  refine (List.mem_append.mp h).elim (wl_in_24 w) (fun h => ?_)
  refine (List.mem_append.mp h).elim (wl_in_25 w) (fun h => ?_)
  refine (List.mem_append.mp h).elim (wl_in_26 w) (fun h => ?_)
  refine (List.mem_append.mp h).elim (wl_in_27 w) (fun h => ?_)
  refine (List.mem_append.mp h).elim (wl_in_28 w) (fun h => ?_)
  refine (List.mem_append.mp h).elim (wl_in_29 w) (fun h => ?_)
  refine (List.mem_append.mp h).elim (wl_in_30 w) (fun h => ?_)
  refine (List.mem_append.mp h).elim (wl_in_31 w) (fun h => ?_)
  refine (List.mem_append.mp h).elim (wl_in_32 w) (fun h => ?_)
  refine (List.mem_append.mp h).elim (wl_in_33 w) (fun h => ?_)
  refine (List.mem_append.mp h).elim (wl_in_34 w) (fun h => ?_)
  refine (List.mem_append.mp h).elim (wl_in_35 w) (fun h => ?_)
  refine (List.mem_append.mp h).elim (wl_in_36 w) (fun h => ?_)
  refine (List.mem_append.mp h).elim (wl_in_37 w) (fun h => ?_)
  refine (List.mem_append.mp h).elim (wl_in_38 w) (fun h => ?_)
  refine (List.mem_append.mp h).elim (wl_in_39 w) (fun h => ?_)
  refine (List.mem_append.mp h).elim (wl_in_40 w) (fun h => ?_)
  refine (List.mem_append.mp h).elim (wl_in_41 w) (fun h => ?_)
  refine (List.mem_append.mp h).elim (wl_in_42 w) (fun h => ?_)
  refine (List.mem_append.mp h).elim (wl_in_43 w) (fun h => ?_)
  refine (List.mem_append.mp h).elim (wl_in_44 w) (fun h => ?_)
  refine (List.mem_append.mp h).elim (wl_in_45 w) (fun h => ?_)
  refine (List.mem_append.mp h).elim (wl_in_46 w) (fun h => ?_)
  refine (List.mem_append.mp h).elim (wl_in_47 w) (fun h => ?_)
  refine (List.mem_append.mp h).elim (wl_in_48 w) (fun h => ?_)
  refine (List.mem_append.mp h).elim (wl_in_49 w) (fun h => ?_)
  refine (List.mem_append.mp h).elim (wl_in_50 w) (fun h => ?_)
  refine (List.mem_append.mp h).elim (wl_in_51 w) (fun h => ?_)
  refine (List.mem_append.mp h).elim (wl_in_52 w) (fun h => ?_)
  refine (List.mem_append.mp h).elim (wl_in_53 w) (fun h => ?_)
  refine (List.mem_append.mp h).elim (wl_in_54 w) (fun h => ?_)
  refine (List.mem_append.mp h).elim (wl_in_55 w) (fun h => ?_)
  refine (List.mem_append.mp h).elim (wl_in_56 w) (fun h => ?_)
  refine (List.mem_append.mp h).elim (wl_in_57 w) (fun h => ?_)
  refine (List.mem_append.mp h).elim (wl_in_58 w) (fun h => ?_)
  refine (List.mem_append.mp h).elim (wl_in_59 w) (fun h => ?_)
  refine (List.mem_append.mp h).elim (wl_in_60 w) (fun h => ?_)
  refine (List.mem_append.mp h).elim (wl_in_61 w) (fun h => ?_)
  refine (List.mem_append.mp h).elim (wl_in_62 w) (fun h => ?_)
  refine (List.mem_append.mp h).elim (wl_in_63 w) (fun h => ?_)
  refine (List.mem_append.mp h).elim (wl_in_64 w) (fun h => ?_)
  refine (List.mem_append.mp h).elim (wl_in_65 w) (fun h => ?_)
  refine (List.mem_append.mp h).elim (wl_in_66 w) (fun h => ?_)
  exact wl_in_67 w h
