set_option maxRecDepth 20000 in
theorem wg_r1 : GoodIn lw_tbl wsL_law_r1 := goodIn_r _ [128, 129, 108, 1368, 1369, 124, 130, 131, 132, 133, 134, 135, 238, 664, 136, 137, 109, 666, 258, 259, 115, 667, 668, 393] (by decide +kernel) (by decide +kernel)
set_option maxRecDepth 20000 in
theorem wg_r2 : GoodIn lw_tbl wsL_law_r2 := goodIn_r _ [394, 117, 669, 418, 419, 118, 670, 479, 480, 119, 671, 672, 517, 673, 503, 504, 120, 674, 518, 519, 121, 675, 563, 564] (by decide +kernel) (by decide +kernel)
set_option maxRecDepth 20000 in
theorem wg_r3 : GoodIn lw_tbl wsL_law_r3 := goodIn_r _ [122, 676, 139, 140, 141, 142, 143, 110, 240, 245, 144, 145, 146, 147, 239, 201, 202, 149, 150, 151, 111, 152, 2073, 153] (by decide +kernel) (by decide +kernel)
set_option maxRecDepth 20000 in
theorem wg_r4 : GoodIn lw_tbl wsL_law_r4 := goodIn_r _ [154, 155, 156, 157, 2074, 159, 160, 161, 162, 163, 164, 165, 166, 167, 168, 112, 169, 170, 171, 172, 173, 175, 176, 113] (by decide +kernel) (by decide +kernel)
set_option maxRecDepth 20000 in
theorem wg_r5 : GoodIn lw_tbl wsL_law_r5 := goodIn_r _ [177, 178, 179, 114, 180, 181, 182, 183, 184, 185, 186, 187, 188, 189, 190, 191, 193, 195, 197, 198, 199, 200, 261, 262] (by decide +kernel) (by decide +kernel)
set_option maxRecDepth 20000 in
theorem wg_r6 : GoodIn lw_tbl wsL_law_r6 := goodIn_r _ [263, 313, 293, 315, 319, 323, 328, 333, 335, 340, 345, 349, 264, 265, 116, 352, 355, 267, 268, 269, 270, 271, 272, 395] (by decide +kernel) (by decide +kernel)
set_option maxRecDepth 20000 in
theorem wg_r7 : GoodIn lw_tbl wsL_law_r7 := goodIn_r _ [396, 397, 398, 402, 399, 421, 422, 423, 424, 428, 432, 436, 438, 481, 482, 483, 484, 485, 488, 506, 507, 508, 509, 520] (by decide +kernel) (by decide +kernel)
set_option maxRecDepth 20000 in
theorem wg_r8 : GoodIn lw_tbl wsL_law_r8 := goodIn_r _ [521, 522, 523, 524, 530, 531, 532, 533, 534, 535, 536, 526, 400, 527, 528, 529, 565, 566, 567, 568, 569, 572, 573, 574] (by decide +kernel) (by decide +kernel)
set_option maxRecDepth 20000 in
theorem wg_r9 : GoodIn lw_tbl wsL_law_r9 := goodIn_r _ [575, 576, 577, 578, 579, 580, 581, 571, 612, 613, 614, 615, 294, 300, 302, 308, 311, 616, 617, 618, 619, 273, 277, 274] (by decide +kernel) (by decide +kernel)
set_option maxRecDepth 20000 in
theorem wg_r10 : GoodIn lw_tbl wsL_law_r10 := goodIn_r _ [620, 621, 622, 623, 624, 626, 625, 123, 627, 628, 629, 630, 631, 632, 634, 0, 635, 636, 637, 638, 639, 350, 440, 446] (by decide +kernel) (by decide +kernel)
set_option maxRecDepth 20000 in
theorem wg_r11 : GoodIn lw_tbl wsL_law_r11 := goodIn_r _ [449, 309, 452, 341, 455, 640, 641, 642, 643, 644, 645, 646, 647, 489, 490, 492, 648, 650, 1, 651, 652, 653, 654, 655] (by decide +kernel) (by decide +kernel)
set_option maxRecDepth 20000 in
theorem wg_r12 : GoodIn lw_tbl wsL_law_r12 := goodIn_r _ [656, 657, 658, 659, 510, 660, 661, 662, 663, 583, 582, 1370, 1371, 1372, 1373, 1390, 1391, 1395, 1401, 1402, 1403, 1404, 1405, 1406] (by decide +kernel) (by decide +kernel)
set_option maxRecDepth 20000 in
theorem wg_r13 : GoodIn lw_tbl wsL_law_r13 := goodIn_r _ [1407, 1408, 1409, 1410, 1411, 1412, 1413, 1414, 1415, 1416, 1417, 1418, 1419, 1420, 1421, 1422, 1423, 1436, 1437, 1438, 1441, 1442, 1443, 1445] (by decide +kernel) (by decide +kernel)
set_option maxRecDepth 20000 in
theorem wg_r14 : GoodIn lw_tbl wsL_law_r14 := goodIn_r _ [1446, 1447, 1448, 1449, 1450, 1451, 1452, 1453, 1454, 1457, 1458, 1374, 1376, 39, 1377, 1425, 1426, 1378, 1380, 40, 1381, 1424, 1439, 1440] (by decide +kernel) (by decide +kernel)
set_option maxRecDepth 20000 in
theorem wg_r15 : GoodIn lw_tbl wsL_law_r15 := goodIn_r _ [1455, 1444, 1382, 1384, 41, 1385, 1386, 1388, 42, 1389, 707, 708, 709, 710, 665, 711, 713, 2, 714, 2065, 2066, 2067, 2068, 1392] (by decide +kernel) (by decide +kernel)
set_option maxRecDepth 20000 in
theorem wg_r16 : GoodIn lw_tbl wsL_law_r16 := goodIn_r _ [715, 716, 717, 718, 2069, 2070, 2071, 2072, 719, 720, 721, 722, 303, 723, 724, 725, 726, 243, 241, 205, 209, 353, 356, 727] (by decide +kernel) (by decide +kernel)
set_option maxRecDepth 20000 in
theorem wg_r17 : GoodIn lw_tbl wsL_law_r17 := goodIn_r _ [728, 729, 730, 731, 732, 733, 125, 734, 203, 204, 735, 736, 737, 738, 207, 206, 215, 739, 740, 741, 742, 743, 744, 745] (by decide +kernel) (by decide +kernel)
set_option maxRecDepth 20000 in
theorem wg_r18 : GoodIn lw_tbl wsL_law_r18 := goodIn_r _ [747, 3, 748, 211, 210, 749, 751, 4, 752, 753, 754, 755, 756, 758, 5, 759, 213, 761, 762, 763, 764, 765, 766, 767] (by decide +kernel) (by decide +kernel)
set_option maxRecDepth 20000 in
theorem wg_r19 : GoodIn lw_tbl wsL_law_r19 := goodIn_r _ [768, 769, 770, 771, 772, 776, 777, 778, 779, 773, 774, 775, 780, 781, 782, 783, 784, 785, 786, 787, 788, 789, 790, 791] (by decide +kernel) (by decide +kernel)
set_option maxRecDepth 20000 in
theorem wg_r20 : GoodIn lw_tbl wsL_law_r20 := goodIn_r _ [792, 793, 794, 795, 796, 797, 798, 799, 800, 801, 802, 803, 804, 805, 806, 807, 808, 126, 809, 810, 811, 812, 813, 814] (by decide +kernel) (by decide +kernel)
set_option maxRecDepth 20000 in
theorem wg_r21 : GoodIn lw_tbl wsL_law_r21 := goodIn_r _ [815, 816, 817, 818, 820, 6, 821, 296, 314, 316, 242, 320, 822, 824, 7, 825, 208, 826, 827, 829, 8, 830, 212, 831] (by decide +kernel) (by decide +kernel)
set_option maxRecDepth 20000 in
theorem wg_r22 : GoodIn lw_tbl wsL_law_r22 := goodIn_r _ [832, 833, 834, 835, 837, 9, 838, 214, 839, 840, 841, 842, 843, 845, 10, 846, 301, 324, 329, 847, 849, 11, 850, 851] (by decide +kernel) (by decide +kernel)
set_option maxRecDepth 20000 in
theorem wg_r23 : GoodIn lw_tbl wsL_law_r23 := goodIn_r _ [852, 853, 854, 855, 857, 12, 858, 304, 334, 337, 342, 347, 351, 859, 861, 13, 862, 275, 863, 865, 14, 866, 867, 869] (by decide +kernel) (by decide +kernel)
set_option maxRecDepth 20000 in
theorem wg_r24 : GoodIn lw_tbl wsL_law_r24 := goodIn_r _ [15, 875, 876, 877, 878, 870, 871, 873, 16, 874, 216, 879, 881, 17, 882, 883, 885, 18, 886, 887, 889, 19, 895, 897] (by decide +kernel) (by decide +kernel)
set_option maxRecDepth 20000 in
theorem wg_r25 : GoodIn lw_tbl wsL_law_r25 := goodIn_r _ [20, 898, 890, 279, 891, 892, 893, 894, 899, 901, 21, 902, 312, 310, 1598, 1599, 1600, 1601, 1394, 1393, 1397, 1398, 1602, 1604] (by decide +kernel) (by decide +kernel)
set_option maxRecDepth 20000 in
theorem wg_r26 : GoodIn lw_tbl wsL_law_r26 := goodIn_r _ [43, 1605, 1396, 1400, 1399, 1606, 1608, 44, 1609, 1610, 1611, 1612, 1613, 1614, 1615, 1616, 1617, 1618, 1619, 1620, 1621, 1622, 1623, 1624] (by decide +kernel) (by decide +kernel)
set_option maxRecDepth 20000 in
theorem wg_r27 : GoodIn lw_tbl wsL_law_r27 := goodIn_r _ [1625, 1626, 1627, 1628, 1629, 1630, 1631, 1632, 1633, 1634, 1635, 1636, 1637, 1638, 1639, 1640, 1642, 45, 1643, 1644, 1646, 46, 1647, 1648] (by decide +kernel) (by decide +kernel)
set_option maxRecDepth 20000 in
theorem wg_r28 : GoodIn lw_tbl wsL_law_r28 := goodIn_r _ [1650, 47, 1651, 1652, 1654, 48, 1655, 1656, 1657, 1658, 1659, 1661, 49, 1662, 1663, 1665, 50, 1666, 1667, 1669, 51, 1670, 1671, 1673] (by decide +kernel) (by decide +kernel)
set_option maxRecDepth 20000 in
theorem wg_r29 : GoodIn lw_tbl wsL_law_r29 := goodIn_r _ [52, 1674, 1675, 1677, 53, 1678, 1679, 1681, 54, 1682, 1683, 1685, 55, 1686, 1687, 1689, 56, 1690, 1691, 1693, 57, 1694, 1695, 1697] (by decide +kernel) (by decide +kernel)
set_option maxRecDepth 20000 in
theorem wg_r30 : GoodIn lw_tbl wsL_law_r30 := goodIn_r _ [58, 1698, 1699, 1701, 59, 1702, 1429, 1703, 1705, 60, 1706, 1428, 1427, 1707, 1709, 61, 1710, 1711, 1713, 62, 1714, 1715, 1717, 63] (by decide +kernel) (by decide +kernel)
set_option maxRecDepth 20000 in
theorem wg_r31 : GoodIn lw_tbl wsL_law_r31 := goodIn_r _ [1718, 1719, 1721, 64, 1722, 1723, 1725, 65, 1726, 1727, 1729, 66, 1730, 1731, 1733, 67, 1734, 1735, 1737, 68, 1738, 903, 904, 905] (by decide +kernel) (by decide +kernel)
set_option maxRecDepth 20000 in
theorem wg_r32 : GoodIn lw_tbl wsL_law_r32 := goodIn_r _ [906, 244, 246, 1739, 1740, 1741, 1742, 907, 908, 909, 910, 338, 343, 348, 431, 434, 437, 911, 912, 913, 914, 915, 916, 917] (by decide +kernel) (by decide +kernel)
set_option maxRecDepth 20000 in
theorem wg_r33 : GoodIn lw_tbl wsL_law_r33 := goodIn_r _ [918, 919, 920, 921, 922, 923, 924, 925, 926, 927, 928, 929, 930, 336, 429, 931, 932, 933, 934, 346, 433, 439, 935, 936] (by decide +kernel) (by decide +kernel)
set_option maxRecDepth 20000 in
theorem wg_r34 : GoodIn lw_tbl wsL_law_r34 := goodIn_r _ [937, 938, 943, 939, 941, 22, 942, 457, 344, 1743, 1744, 1745, 1746, 1747, 1749, 69, 1750, 1751, 1752, 1753, 1754, 1756, 70, 1757] (by decide +kernel) (by decide +kernel)
set_option maxRecDepth 20000 in
theorem wg_r35 : GoodIn lw_tbl wsL_law_r35 := goodIn_r _ [1758, 1760, 71, 1761, 1762, 1764, 72, 1765, 1766, 1768, 73, 1769, 1770, 1772, 74, 1773, 1774, 1776, 75, 1777, 1778, 1780, 76, 1781] (by decide +kernel) (by decide +kernel)
set_option maxRecDepth 20000 in
theorem wg_r36 : GoodIn lw_tbl wsL_law_r36 := goodIn_r _ [1782, 1784, 77, 1785, 944, 945, 946, 947, 298, 318, 322, 325, 330, 1786, 1787, 1788, 1789, 1790, 1792, 78, 1793, 948, 949, 950] (by decide +kernel) (by decide +kernel)
set_option maxRecDepth 20000 in
theorem wg_r37 : GoodIn lw_tbl wsL_law_r37 := goodIn_r _ [951, 427, 1794, 1795, 1796, 1797, 952, 953, 954, 955, 968, 404, 407, 956, 957, 958, 959, 445, 295, 960, 962, 23, 963, 964] (by decide +kernel) (by decide +kernel)
set_option maxRecDepth 20000 in
theorem wg_r38 : GoodIn lw_tbl wsL_law_r38 := goodIn_r _ [965, 966, 967, 969, 970, 971, 972, 306, 425, 973, 974, 975, 976, 977, 978, 317, 321, 450, 354, 276, 403, 357, 406, 979] (by decide +kernel) (by decide +kernel)
set_option maxRecDepth 20000 in
theorem wg_r39 : GoodIn lw_tbl wsL_law_r39 := goodIn_r _ [980, 981, 982, 983, 984, 985, 986, 987, 988, 1798, 1799, 1800, 1801, 1829, 1802, 1804, 79, 1805, 1806, 1808, 80, 1809, 1810, 1812] (by decide +kernel) (by decide +kernel)
set_option maxRecDepth 20000 in
theorem wg_r40 : GoodIn lw_tbl wsL_law_r40 := goodIn_r _ [81, 1813, 1430, 1431, 1432, 1433, 1434, 1435, 1814, 1816, 82, 1817, 1818, 1820, 83, 1821, 1822, 1824, 84, 1825, 1826, 1827, 1828, 989] (by decide +kernel) (by decide +kernel)
set_option maxRecDepth 20000 in
theorem wg_r41 : GoodIn lw_tbl wsL_law_r41 := goodIn_r _ [990, 991, 992, 993, 994, 995, 996, 331, 453, 326, 997, 998, 999, 1000, 1001, 1002, 1003, 1004, 1005, 1006, 1007, 1008, 1009, 1834] (by decide +kernel) (by decide +kernel)
set_option maxRecDepth 20000 in
theorem wg_r42 : GoodIn lw_tbl wsL_law_r42 := goodIn_r _ [1835, 1836, 1837, 1838, 1840, 85, 1841, 1842, 1844, 86, 1845, 1846, 1848, 87, 1849, 1010, 1011, 1012, 1013, 1850, 1851, 1852, 1853, 1014] (by decide +kernel) (by decide +kernel)
set_option maxRecDepth 20000 in
theorem wg_r43 : GoodIn lw_tbl wsL_law_r43 := goodIn_r _ [1015, 1016, 1017, 1854, 1855, 1856, 1857, 1018, 1019, 1020, 1021, 1858, 1859, 1860, 1861, 1022, 1023, 1024, 1025, 1026, 1027, 1028, 1029, 1030] (by decide +kernel) (by decide +kernel)
set_option maxRecDepth 20000 in
theorem wg_r44 : GoodIn lw_tbl wsL_law_r44 := goodIn_r _ [1031, 1032, 1033, 1034, 1862, 1863, 1864, 1865, 1866, 1868, 88, 1869, 1035, 1036, 1037, 1038, 1039, 1040, 1041, 1042, 1870, 1871, 1872, 1873] (by decide +kernel) (by decide +kernel)
set_option maxRecDepth 20000 in
theorem wg_r45 : GoodIn lw_tbl wsL_law_r45 := goodIn_r _ [1043, 1044, 1045, 1046, 451, 444, 448, 1047, 1874, 1875, 1876, 1877, 1048, 1049, 1050, 1051, 1052, 1053, 1054, 1055, 1878, 1879, 1880, 1881] (by decide +kernel) (by decide +kernel)
set_option maxRecDepth 20000 in
theorem wg_r46 : GoodIn lw_tbl wsL_law_r46 := goodIn_r _ [1882, 1884, 89, 1885, 1056, 1057, 1058, 1059, 1060, 1061, 1062, 1063, 1886, 1887, 1888, 1889, 1064, 1065, 1066, 1067, 1068, 1069, 1070, 1071] (by decide +kernel) (by decide +kernel)
set_option maxRecDepth 20000 in
theorem wg_r47 : GoodIn lw_tbl wsL_law_r47 := goodIn_r _ [441, 1072, 1073, 1074, 1075, 1894, 1895, 1896, 1897, 1898, 1900, 90, 1901, 1902, 1904, 91, 1905, 1076, 1077, 1078, 1079, 1080, 1081, 1082] (by decide +kernel) (by decide +kernel)
set_option maxRecDepth 20000 in
theorem wg_r48 : GoodIn lw_tbl wsL_law_r48 := goodIn_r _ [1083, 447, 297, 1084, 1906, 1907, 1908, 1909, 1910, 1912, 92, 1913, 1914, 1916, 93, 1917, 1085, 1086, 1087, 1088, 1089, 1090, 1091, 1092] (by decide +kernel) (by decide +kernel)
set_option maxRecDepth 20000 in
theorem wg_r49 : GoodIn lw_tbl wsL_law_r49 := goodIn_r _ [430, 1093, 1094, 1095, 1096, 1097, 1098, 1925, 1926, 1927, 1928, 1929, 1931, 94, 1932, 1099, 1100, 1101, 1102, 1103, 1104, 1105, 1106, 1128] (by decide +kernel) (by decide +kernel)
set_option maxRecDepth 20000 in
theorem wg_r50 : GoodIn lw_tbl wsL_law_r50 := goodIn_r _ [1107, 1108, 1110, 24, 1111, 307, 426, 1112, 1113, 1115, 25, 1116, 405, 408, 1117, 1118, 1119, 1121, 26, 1122, 339, 1123, 1124, 1126] (by decide +kernel) (by decide +kernel)
set_option maxRecDepth 20000 in
theorem wg_r51 : GoodIn lw_tbl wsL_law_r51 := goodIn_r _ [27, 1127, 1129, 1131, 28, 1132, 1133, 1134, 1135, 1136, 1933, 1934, 1935, 1936, 1937, 1938, 1939, 1940, 1942, 95, 1943, 1944, 1946, 96] (by decide +kernel) (by decide +kernel)
set_option maxRecDepth 20000 in
theorem wg_r52 : GoodIn lw_tbl wsL_law_r52 := goodIn_r _ [1947, 1948, 1950, 97, 1951, 1137, 1138, 1139, 1140, 1141, 1142, 1143, 1144, 1145, 1146, 1147, 1148, 442, 1149, 1150, 127, 1151, 1152, 1153] (by decide +kernel) (by decide +kernel)
set_option maxRecDepth 20000 in
theorem wg_r53 : GoodIn lw_tbl wsL_law_r53 := goodIn_r _ [1154, 1155, 1157, 29, 1158, 1159, 1161, 30, 1162, 1952, 1953, 1954, 1955, 1956, 1958, 98, 1959, 1922, 1923, 1924, 1163, 1164, 1165, 1166] (by decide +kernel) (by decide +kernel)
set_option maxRecDepth 20000 in
theorem wg_r54 : GoodIn lw_tbl wsL_law_r54 := goodIn_r _ [1167, 1168, 1169, 1170, 1171, 1172, 1960, 1961, 1962, 1963, 1173, 1174, 1175, 1176, 1177, 1178, 1179, 1180, 1181, 1183, 31, 1184, 1185, 1186] (by decide +kernel) (by decide +kernel)
set_option maxRecDepth 20000 in
theorem wg_r55 : GoodIn lw_tbl wsL_law_r55 := goodIn_r _ [1187, 1188, 1189, 1191, 32, 1192, 1964, 1965, 1966, 1967, 1968, 1970, 99, 1971, 1972, 1974, 100, 1975, 1193, 1194, 1195, 1196, 1197, 1198] (by decide +kernel) (by decide +kernel)
set_option maxRecDepth 20000 in
theorem wg_r56 : GoodIn lw_tbl wsL_law_r56 := goodIn_r _ [1199, 1200, 537, 1201, 1203, 33, 1204, 1205, 1206, 1207, 1976, 1977, 1978, 1979, 1980, 1982, 101, 1983, 1208, 1209, 1210, 1211, 1212, 1213] (by decide +kernel) (by decide +kernel)
set_option maxRecDepth 20000 in
theorem wg_r57 : GoodIn lw_tbl wsL_law_r57 := goodIn_r _ [1214, 1215, 435, 1984, 1985, 1986, 1987, 1216, 1217, 1218, 1219, 1220, 1221, 1222, 1223, 1224, 1226, 34, 1227, 1988, 1989, 1990, 1991, 1228] (by decide +kernel) (by decide +kernel)
set_option maxRecDepth 20000 in
theorem wg_r58 : GoodIn lw_tbl wsL_law_r58 := goodIn_r _ [1229, 1230, 1231, 1232, 1233, 1234, 1235, 1236, 1992, 1993, 1994, 1995, 1237, 1238, 1239, 1240, 1241, 1242, 1243, 1244, 1996, 1997, 1998, 1999] (by decide +kernel) (by decide +kernel)
set_option maxRecDepth 20000 in
theorem wg_r59 : GoodIn lw_tbl wsL_law_r59 := goodIn_r _ [1245, 1246, 1247, 1248, 1249, 1250, 1251, 1252, 1253, 1918, 1919, 1920, 1921, 1254, 1255, 1256, 1257, 1258, 1259, 1260, 1261, 1262, 1830, 1831] (by decide +kernel) (by decide +kernel)
set_option maxRecDepth 20000 in
theorem wg_r60 : GoodIn lw_tbl wsL_law_r60 := goodIn_r _ [1832, 1833, 1263, 1264, 1265, 1266, 1267, 1268, 1269, 1270, 332, 1271, 1273, 35, 1274, 327, 1275, 1276, 1277, 2000, 2001, 2002, 2003, 2004] (by decide +kernel) (by decide +kernel)
set_option maxRecDepth 20000 in
theorem wg_r61 : GoodIn lw_tbl wsL_law_r61 := goodIn_r _ [2006, 102, 2007, 2008, 2009, 2010, 1278, 1279, 1280, 1281, 1282, 1283, 1284, 1285, 1890, 1891, 1892, 1893, 1286, 1287, 1288, 1289, 677, 1290] (by decide +kernel) (by decide +kernel)
set_option maxRecDepth 20000 in
theorem wg_r62 : GoodIn lw_tbl wsL_law_r62 := goodIn_r _ [1291, 1292, 1293, 2011, 2012, 2013, 2014, 1456, 1294, 1295, 1296, 1297, 1298, 1299, 1300, 1301, 2015, 2016, 2017, 2018, 1302, 1303, 1304, 1305] (by decide +kernel) (by decide +kernel)
set_option maxRecDepth 20000 in
theorem wg_r63 : GoodIn lw_tbl wsL_law_r63 := goodIn_r _ [1306, 2019, 2020, 2021, 2022, 2023, 1307, 1308, 1309, 1310, 1311, 1312, 1313, 1314, 401, 305, 1315, 1317, 36, 1318, 456, 299, 443, 1319] (by decide +kernel) (by decide +kernel)
set_option maxRecDepth 20000 in
theorem wg_r64 : GoodIn lw_tbl wsL_law_r64 := goodIn_r _ [1320, 1321, 1323, 37, 1324, 2024, 2025, 2026, 2027, 2028, 2030, 103, 2031, 2032, 2034, 104, 2035, 2036, 2038, 105, 2039, 1325, 1326, 1327] (by decide +kernel) (by decide +kernel)
set_option maxRecDepth 20000 in
theorem wg_r65 : GoodIn lw_tbl wsL_law_r65 := goodIn_r _ [1328, 1329, 1330, 1331, 1332, 1333, 1334, 1335, 1336, 1337, 2040, 2041, 2042, 2043, 2044, 1338, 1339, 1340, 1341, 1342, 1343, 1344, 1345, 1346] (by decide +kernel) (by decide +kernel)
set_option maxRecDepth 20000 in
theorem wg_r66 : GoodIn lw_tbl wsL_law_r66 := goodIn_r _ [1348, 38, 1349, 1350, 2045, 2046, 2047, 2048, 2049, 2051, 106, 2052, 1351, 1352, 1353, 1354, 1355, 2053, 2054, 2055, 2056, 1356, 1357, 1358] (by decide +kernel) (by decide +kernel)
set_option maxRecDepth 20000 in
theorem wg_r67 : GoodIn lw_tbl wsL_law_r67 := goodIn_r _ [1359, 2057, 2058, 2059, 2060, 1360, 1361, 1362, 1363, 454, 491, 493, 584, 511, 1364, 1365, 1366, 1367, 278, 2061, 2062, 2063, 2064] (by decide +kernel) (by decide +kernel)
set_option maxRecDepth 20000 in
theorem wg_X0 : GoodIn lw_tbl wsX00 := goodIn_r _ [409, 411, 413, 415] (by decide +kernel) (by decide +kernel)
set_option maxRecDepth 20000 in
theorem wg_X1 : GoodIn lw_tbl wsX10 := goodIn_r _ [280, 282, 284, 286, 288, 290] (by decide +kernel) (by decide +kernel)
set_option maxRecDepth 20000 in
theorem wg_X2 : GoodIn lw_tbl wsX20 := goodIn_r _ [494, 496, 498, 500] (by decide +kernel) (by decide +kernel)
set_option maxRecDepth 20000 in
theorem wg_X3 : GoodIn lw_tbl wsX30 := goodIn_r _ [512, 514] (by decide +kernel) (by decide +kernel)
set_option maxRecDepth 20000 in
theorem wg_X4 : GoodIn lw_tbl wsX40 := goodIn_r _ [538, 540, 542, 544, 546, 548, 550, 552, 554, 556, 558, 560] (by decide +kernel) (by decide +kernel)
set_option maxRecDepth 20000 in
theorem wg_X5 : GoodIn lw_tbl wsX50 := goodIn_r _ [247, 249, 251, 253, 255] (by decide +kernel) (by decide +kernel)
set_option maxRecDepth 20000 in
theorem wg_X6 : GoodIn lw_tbl wsX60 := goodIn_r _ [585, 587, 589, 591, 593, 595, 597, 599, 601, 603, 605, 607, 609] (by decide +kernel) (by decide +kernel)
set_option maxRecDepth 20000 in
theorem wg_X7 : GoodIn lw_tbl wsX70 := goodIn_r _ [458, 460, 462, 464, 466, 468, 470, 472, 474, 476] (by decide +kernel) (by decide +kernel)
set_option maxRecDepth 20000 in
theorem wg_X8 : GoodIn lw_tbl wsX80 := goodIn_r _ [217, 219, 221, 223, 225, 227, 229, 231, 233, 235] (by decide +kernel) (by decide +kernel)
set_option maxRecDepth 20000 in
theorem wg_X9 : GoodIn lw_tbl wsX90 := goodIn_r _ [358, 360, 362, 364, 366, 368, 370, 372, 374, 376, 378, 380, 382, 384, 386, 388, 390] (by decide +kernel) (by decide +kernel)
set_option maxRecDepth 20000 in
theorem wg_X10 : GoodIn lw_tbl wsX100 := goodIn_r _ [678, 680, 682, 684, 686, 688, 690, 692, 694, 696, 698, 700, 702, 704] (by decide +kernel) (by decide +kernel)
set_option maxRecDepth 20000 in
theorem wg_X11 : GoodIn lw_tbl wsX110 := goodIn_r _ [1459, 1461, 1463, 1465, 1467, 1469, 1471, 1473, 1475, 1477, 1479, 1481, 1483, 1485, 1487, 1489, 1491, 1493, 1495, 1497, 1499, 1501, 1503, 1505, 1507, 1509, 1511, 1513, 1515, 1517, 1519, 1521, 1523, 1525, 1527, 1529, 1531, 1533, 1535, 1537, 1539, 1541, 1543, 1545, 1547, 1549, 1551, 1553, 1555, 1557, 1559, 1561, 1563, 1565, 1567, 1569, 1571, 1573, 1575, 1577, 1579, 1581, 1583, 1585, 1587, 1589, 1591, 1593, 1595] (by decide +kernel) (by decide +kernel)
theorem wg_law : GoodIn lw_tbl wsL_law := goodIn_app (goodIn_app (goodIn_app (goodIn_app (goodIn_app (goodIn_app (goodIn_app (goodIn_app (goodIn_app (goodIn_app (goodIn_app (goodIn_app (goodIn_app (goodIn_app wg_r1 (goodIn_app wg_r2 (goodIn_app wg_r3 (goodIn_app wg_r4 (goodIn_app wg_r5 (goodIn_app wg_r6 (goodIn_app wg_r7 (goodIn_app wg_r8 (goodIn_app wg_r9 (goodIn_app wg_r10 (goodIn_app wg_r11 (goodIn_app wg_r12 (goodIn_app wg_r13 (goodIn_app wg_r14 (goodIn_app wg_r15 (goodIn_app wg_r16 (goodIn_app wg_r17 (goodIn_app wg_r18 (goodIn_app wg_r19 (goodIn_app wg_r20 (goodIn_app wg_r21 (goodIn_app wg_r22 (goodIn_app wg_r23 (goodIn_app wg_r24 (goodIn_app wg_r25 (goodIn_app wg_r26 (goodIn_app wg_r27 (goodIn_app wg_r28 (goodIn_app wg_r29 (goodIn_app wg_r30 (goodIn_app wg_r31 (goodIn_app wg_r32 (goodIn_app wg_r33 (goodIn_app wg_r34 (goodIn_app wg_r35 (goodIn_app wg_r36 (goodIn_app wg_r37 (goodIn_app wg_r38 (goodIn_app wg_r39 (goodIn_app wg_r40 (goodIn_app wg_r41 (goodIn_app wg_r42 (goodIn_app wg_r43 (goodIn_app wg_r44 (goodIn_app wg_r45 (goodIn_app wg_r46 (goodIn_app wg_r47 (goodIn_app wg_r48 (goodIn_app wg_r49 (goodIn_app wg_r50 (goodIn_app wg_r51 (goodIn_app wg_r52 (goodIn_app wg_r53 (goodIn_app wg_r54 (goodIn_app wg_r55 (goodIn_app wg_r56 (goodIn_app wg_r57 (goodIn_app wg_r58 (goodIn_app wg_r59 (goodIn_app wg_r60 (goodIn_app wg_r61 (goodIn_app wg_r62 (goodIn_app wg_r63 (goodIn_app wg_r64 (goodIn_app wg_r65 (goodIn_app wg_r66 (wg_r67))))))))))))))))))))))))))))))))))))))))))))))))))))))))))))))))))) wg_X10) wg_X11) wg_X5) wg_X9) wg_X0) wg_X7) wg_X2) wg_X3) wg_X4) wg_X6) wg_X8) wg_X1) (fun _ h => absurd h List.not_mem_nil)
theorem wg_self : GoodIn wsL_law wsL_law := fun w h => ⟨h, (wg_law w h).2⟩
theorem wsL_law_in : ∀ w ∈ wsL_law, w ∈ lw_tbl := fun w h => (wg_law w h).1
