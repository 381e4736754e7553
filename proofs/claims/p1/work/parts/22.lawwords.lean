
set_option maxRecDepth 20000 in
theorem wl_1 : GoodIn lw_tbl wsL_law0_r1 := goodIn_r _ [140, 141, 120, 1216, 1217, 131, 346, 142, 143, 144, 145, 146, 147, 148, 149, 121, 436, 165, 166, 122, 437, 198, 199, 123] (by decide +kernel) (by decide +kernel)
set_option maxRecDepth 20000 in
theorem wl_2 : GoodIn lw_tbl wsL_law0_r2 := goodIn_r _ [438, 228, 229, 124, 439, 241, 242, 125, 440, 295, 296, 126, 441, 442, 317, 318, 127, 444, 347, 348, 128, 445, 377, 378] (by decide +kernel) (by decide +kernel)
set_option maxRecDepth 20000 in
theorem wl_3 : GoodIn lw_tbl wsL_law0_r3 := goodIn_r _ [129, 446, 396, 397, 130, 447, 197, 448, 151, 152, 153, 164, 154, 167, 168, 169, 170, 172, 171, 201, 202, 203, 204, 206] (by decide +kernel) (by decide +kernel)
set_option maxRecDepth 20000 in
theorem wl_4 : GoodIn lw_tbl wsL_law0_r4 := goodIn_r _ [208, 210, 211, 230, 231, 232, 233, 235, 234, 244, 245, 246, 259, 261, 263, 264, 265, 298, 299, 300, 301, 303, 305, 320] (by decide +kernel) (by decide +kernel)
set_option maxRecDepth 20000 in
theorem wl_5 : GoodIn lw_tbl wsL_law0_r5 := goodIn_r _ [321, 322, 327, 328, 329, 330, 350, 351, 352, 353, 354, 355, 359, 379, 380, 381, 382, 384, 385, 383, 399, 400, 401, 402] (by decide +kernel) (by decide +kernel)
set_option maxRecDepth 20000 in
theorem wl_6 : GoodIn lw_tbl wsL_law0_r6 := goodIn_r _ [404, 405, 407, 409, 410, 411, 412, 414, 1218, 1219, 1220, 1221, 1223, 1227, 1231, 1240, 1241, 1242, 1243, 1244, 1245, 1246, 1247, 1252] (by decide +kernel) (by decide +kernel)
set_option maxRecDepth 20000 in
theorem wl_7 : GoodIn lw_tbl wsL_law0_r7 := goodIn_r _ [1253, 1254, 1255, 1256, 1257, 1258, 1259, 1260, 1262, 1263, 1264, 1265, 1266, 1267, 1268, 1270, 1271, 1272, 1273, 476, 477, 478, 479, 156] (by decide +kernel) (by decide +kernel)
set_option maxRecDepth 20000 in
theorem wl_8 : GoodIn lw_tbl wsL_law0_r8 := goodIn_r _ [480, 481, 482, 483, 484, 485, 486, 157, 1383, 1384, 1385, 1386, 1222, 1224, 1387, 1388, 1389, 1390, 1392, 47, 1393, 487, 488, 489] (by decide +kernel) (by decide +kernel)
set_option maxRecDepth 20000 in
theorem wl_9 : GoodIn lw_tbl wsL_law0_r9 := goodIn_r _ [490, 1394, 1395, 1396, 1397, 491, 492, 493, 494, 495, 496, 497, 498, 181, 180, 499, 500, 501, 502, 503, 504, 505, 506, 175] (by decide +kernel) (by decide +kernel)
set_option maxRecDepth 20000 in
theorem wl_10 : GoodIn lw_tbl wsL_law0_r10 := goodIn_r _ [177, 179, 507, 509, 0, 510, 511, 513, 1, 514, 158, 155, 515, 517, 2, 518, 519, 521, 3, 522, 523, 525, 4, 526] (by decide +kernel) (by decide +kernel)
set_option maxRecDepth 20000 in
theorem wl_11 : GoodIn lw_tbl wsL_law0_r11 := goodIn_r _ [527, 529, 5, 530, 531, 533, 6, 534, 535, 537, 7, 538, 539, 541, 8, 542, 543, 545, 9, 546, 547, 548, 549, 550] (by decide +kernel) (by decide +kernel)
set_option maxRecDepth 20000 in
theorem wl_12 : GoodIn lw_tbl wsL_law0_r12 := goodIn_r _ [1398, 1399, 1400, 1401, 1229, 1226, 1402, 1404, 48, 1405, 1225, 1406, 1408, 49, 1409, 1228, 1230, 1410, 1412, 50, 1413, 1414, 1416, 51] (by decide +kernel) (by decide +kernel)
set_option maxRecDepth 20000 in
theorem wl_13 : GoodIn lw_tbl wsL_law0_r13 := goodIn_r _ [1417, 1418, 1420, 52, 1421, 1422, 1424, 53, 1425, 1426, 1428, 54, 1429, 1430, 1432, 55, 1433, 1434, 1436, 56, 1437, 1438, 1440, 57] (by decide +kernel) (by decide +kernel)
set_option maxRecDepth 20000 in
theorem wl_14 : GoodIn lw_tbl wsL_law0_r14 := goodIn_r _ [1441, 1442, 1444, 58, 1445, 1446, 1448, 59, 1449, 1450, 1452, 60, 1453, 1454, 1456, 61, 1457, 1458, 1460, 62, 1461, 1232, 1462, 1464] (by decide +kernel) (by decide +kernel)
set_option maxRecDepth 20000 in
theorem wl_15 : GoodIn lw_tbl wsL_law0_r15 := goodIn_r _ [63, 1465, 1466, 1468, 64, 1469, 1470, 1472, 65, 1473, 1474, 1475, 1476, 1477, 1478, 1479, 1480, 1482, 66, 1483, 1484, 1486, 67, 1487] (by decide +kernel) (by decide +kernel)
set_option maxRecDepth 20000 in
theorem wl_16 : GoodIn lw_tbl wsL_law0_r16 := goodIn_r _ [1488, 1489, 1490, 1491, 1493, 68, 1494, 1495, 1497, 69, 1498, 1499, 1501, 70, 1502, 551, 552, 553, 554, 214, 555, 556, 557, 558] (by decide +kernel) (by decide +kernel)
set_option maxRecDepth 20000 in
theorem wl_17 : GoodIn lw_tbl wsL_law0_r17 := goodIn_r _ [306, 559, 561, 10, 562, 443, 563, 564, 565, 566, 567, 568, 176, 173, 569, 571, 570, 132, 178, 572, 573, 574, 575, 579] (by decide +kernel) (by decide +kernel)
set_option maxRecDepth 20000 in
theorem wl_18 : GoodIn lw_tbl wsL_law0_r18 := goodIn_r _ [580, 133, 581, 212, 582, 576, 577, 578, 583, 585, 11, 586, 213, 588, 589, 592, 594, 12, 595, 174, 596, 597, 598, 599] (by decide +kernel) (by decide +kernel)
set_option maxRecDepth 20000 in
theorem wl_19 : GoodIn lw_tbl wsL_law0_r19 := goodIn_r _ [600, 601, 602, 603, 134, 604, 605, 607, 13, 608, 609, 611, 14, 612, 613, 615, 15, 616, 205, 258, 250, 260, 207, 248] (by decide +kernel) (by decide +kernel)
set_option maxRecDepth 20000 in
theorem wl_20 : GoodIn lw_tbl wsL_law0_r20 := goodIn_r _ [262, 617, 618, 619, 620, 266, 267, 634, 247, 251, 253, 255, 257, 623, 624, 625, 626, 627, 628, 629, 631, 16, 632, 249] (by decide +kernel) (by decide +kernel)
set_option maxRecDepth 20000 in
theorem wl_21 : GoodIn lw_tbl wsL_law0_r21 := goodIn_r _ [633, 636, 637, 638, 639, 640, 641, 643, 17, 644, 645, 646, 647, 648, 649, 650, 651, 670, 671, 672, 652, 653, 654, 655] (by decide +kernel) (by decide +kernel)
set_option maxRecDepth 20000 in
theorem wl_22 : GoodIn lw_tbl wsL_law0_r22 := goodIn_r _ [657, 18, 658, 659, 661, 19, 662, 669, 663, 664, 665, 666, 667, 133, 668, 673, 674, 675, 676, 677, 678, 679, 680, 681] (by decide +kernel) (by decide +kernel)
set_option maxRecDepth 20000 in
theorem wl_23 : GoodIn lw_tbl wsL_law0_r23 := goodIn_r _ [682, 683, 684, 685, 687, 20, 688, 689, 690, 135, 691, 692, 693, 694, 695, 696, 698, 699, 700, 701, 703, 21, 704, 705] (by decide +kernel) (by decide +kernel)
set_option maxRecDepth 20000 in
theorem wl_24 : GoodIn lw_tbl wsL_law0_r24 := goodIn_r _ [706, 707, 708, 709, 710, 711, 712, 714, 22, 715, 716, 717, 718, 719, 720, 1503, 1504, 1505, 1506, 1233, 721, 722, 723, 724] (by decide +kernel) (by decide +kernel)
set_option maxRecDepth 20000 in
theorem wl_25 : GoodIn lw_tbl wsL_law0_r25 := goodIn_r _ [403, 725, 1880, 1881, 1882, 1883, 1522, 1143, 1144, 119, 1145, 1146, 1147, 1148, 1149, 1150, 1151, 139, 209, 730, 731, 732, 733, 1732] (by decide +kernel) (by decide +kernel)
set_option maxRecDepth 20000 in
theorem wl_26 : GoodIn lw_tbl wsL_law0_r26 := goodIn_r _ [1733, 1734, 1735, 1511, 1513, 71, 1514, 1519, 1520, 1521, 1544, 1546, 75, 1547, 1548, 1379, 1380, 1381, 1382, 726, 727, 728, 729, 1736] (by decide +kernel) (by decide +kernel)
set_option maxRecDepth 20000 in
theorem wl_27 : GoodIn lw_tbl wsL_law0_r27 := goodIn_r _ [1737, 1738, 1739, 1586, 1574, 734, 735, 736, 737, 252, 254, 256, 738, 740, 23, 741, 1507, 1508, 1509, 1510, 1518, 1234, 1235, 1236] (by decide +kernel) (by decide +kernel)
set_option maxRecDepth 20000 in
theorem wl_28 : GoodIn lw_tbl wsL_law0_r28 := goodIn_r _ [1237, 1238, 1239, 1515, 1516, 1517, 1523, 1525, 72, 1526, 1527, 1528, 1529, 1530, 1531, 1532, 1533, 1534, 1535, 1536, 1538, 73, 1539, 1540] (by decide +kernel) (by decide +kernel)
set_option maxRecDepth 20000 in
theorem wl_29 : GoodIn lw_tbl wsL_law0_r29 := goodIn_r _ [1542, 74, 1543, 1549, 1550, 1551, 1552, 1554, 76, 1555, 1556, 1558, 77, 1559, 1560, 1562, 78, 1563, 1564, 1566, 79, 1567, 1568, 1569] (by decide +kernel) (by decide +kernel)
set_option maxRecDepth 20000 in
theorem wl_30 : GoodIn lw_tbl wsL_law0_r30 := goodIn_r _ [1570, 1571, 1572, 1573, 742, 743, 744, 745, 1575, 1576, 1577, 1578, 746, 747, 748, 749, 750, 751, 752, 753, 754, 755, 756, 757] (by decide +kernel) (by decide +kernel)
set_option maxRecDepth 20000 in
theorem wl_31 : GoodIn lw_tbl wsL_law0_r31 := goodIn_r _ [758, 759, 760, 761, 763, 24, 764, 765, 766, 767, 768, 1579, 1580, 1581, 1582, 1583, 1584, 1585, 1587, 1589, 80, 1590, 1591, 1593] (by decide +kernel) (by decide +kernel)
set_option maxRecDepth 20000 in
theorem wl_32 : GoodIn lw_tbl wsL_law0_r32 := goodIn_r _ [81, 1594, 1595, 1597, 82, 1598, 1599, 1601, 83, 1602, 1603, 1605, 84, 1606, 1248, 1607, 1609, 85, 1610, 1611, 1613, 86, 1614, 1615] (by decide +kernel) (by decide +kernel)
set_option maxRecDepth 20000 in
theorem wl_33 : GoodIn lw_tbl wsL_law0_r33 := goodIn_r _ [1617, 87, 1618, 1619, 1621, 88, 1622, 769, 770, 771, 772, 302, 304, 773, 774, 775, 776, 777, 1623, 1624, 1625, 1626, 778, 779] (by decide +kernel) (by decide +kernel)
set_option maxRecDepth 20000 in
theorem wl_34 : GoodIn lw_tbl wsL_law0_r34 := goodIn_r _ [780, 781, 782, 783, 1627, 1628, 1629, 1630, 1631, 1633, 89, 1634, 784, 785, 786, 787, 788, 789, 790, 791, 1635, 1636, 1637, 1638] (by decide +kernel) (by decide +kernel)
set_option maxRecDepth 20000 in
theorem wl_35 : GoodIn lw_tbl wsL_law0_r35 := goodIn_r _ [1639, 1641, 90, 1642, 1249, 1250, 1251, 792, 793, 794, 795, 1643, 1644, 1645, 1646, 796, 797, 798, 799, 1647, 1648, 1649, 1650, 800] (by decide +kernel) (by decide +kernel)
set_option maxRecDepth 20000 in
theorem wl_36 : GoodIn lw_tbl wsL_law0_r36 := goodIn_r _ [801, 802, 803, 804, 805, 806, 807, 808, 810, 358, 811, 812, 809, 813, 815, 25, 816, 817, 819, 26, 820, 821, 822, 823] (by decide +kernel) (by decide +kernel)
set_option maxRecDepth 20000 in
theorem wl_37 : GoodIn lw_tbl wsL_law0_r37 := goodIn_r _ [824, 1651, 1652, 1653, 1654, 1655, 1657, 91, 1658, 1659, 1660, 1661, 1663, 92, 1664, 1665, 1667, 93, 1668, 825, 826, 827, 828, 829] (by decide +kernel) (by decide +kernel)
set_option maxRecDepth 20000 in
theorem wl_38 : GoodIn lw_tbl wsL_law0_r38 := goodIn_r _ [830, 831, 832, 833, 834, 835, 836, 837, 1689, 1690, 1691, 1692, 838, 839, 840, 841, 842, 843, 844, 845, 846, 847, 848, 850] (by decide +kernel) (by decide +kernel)
set_option maxRecDepth 20000 in
theorem wl_39 : GoodIn lw_tbl wsL_law0_r39 := goodIn_r _ [27, 851, 852, 853, 854, 855, 856, 858, 28, 859, 860, 861, 862, 863, 864, 865, 866, 867, 868, 1693, 1694, 1695, 1696, 1697] (by decide +kernel) (by decide +kernel)
set_option maxRecDepth 20000 in
theorem wl_40 : GoodIn lw_tbl wsL_law0_r40 := goodIn_r _ [1699, 96, 1700, 1701, 1703, 97, 1704, 1705, 1707, 98, 1708, 1709, 1711, 99, 1712, 869, 870, 871, 872, 873, 874, 1713, 1714, 1715] (by decide +kernel) (by decide +kernel)
set_option maxRecDepth 20000 in
theorem wl_41 : GoodIn lw_tbl wsL_law0_r41 := goodIn_r _ [1716, 1717, 875, 876, 877, 878, 879, 880, 881, 882, 883, 884, 885, 887, 888, 889, 890, 1718, 1719, 1720, 1721, 1722, 1723, 891] (by decide +kernel) (by decide +kernel)
set_option maxRecDepth 20000 in
theorem wl_42 : GoodIn lw_tbl wsL_law0_r42 := goodIn_r _ [892, 893, 894, 1724, 1725, 1726, 1727, 895, 896, 897, 898, 1728, 1729, 1730, 1731, 899, 900, 901, 902, 903, 904, 905, 906, 357] (by decide +kernel) (by decide +kernel)
set_option maxRecDepth 20000 in
theorem wl_43 : GoodIn lw_tbl wsL_law0_r43 := goodIn_r _ [356, 907, 909, 29, 910, 911, 912, 913, 1669, 1670, 1671, 1672, 914, 915, 916, 917, 361, 918, 919, 920, 921, 922, 924, 30] (by decide +kernel) (by decide +kernel)
set_option maxRecDepth 20000 in
theorem wl_44 : GoodIn lw_tbl wsL_law0_r44 := goodIn_r _ [925, 1673, 1674, 1675, 1676, 1677, 1679, 94, 1680, 1681, 1683, 95, 1684, 926, 927, 928, 929, 930, 931, 932, 933, 934, 936, 386] (by decide +kernel) (by decide +kernel)
set_option maxRecDepth 20000 in
theorem wl_45 : GoodIn lw_tbl wsL_law0_r45 := goodIn_r _ [937, 935, 938, 940, 31, 941, 942, 944, 32, 945, 360, 946, 947, 1685, 1686, 1687, 1688, 948, 949, 950, 951, 1740, 1741, 1742] (by decide +kernel) (by decide +kernel)
set_option maxRecDepth 20000 in
theorem wl_46 : GoodIn lw_tbl wsL_law0_r46 := goodIn_r _ [1743, 952, 953, 954, 955, 1744, 1745, 1746, 1747, 956, 957, 958, 959, 324, 960, 962, 33, 963, 964, 965, 966, 967, 323, 325] (by decide +kernel) (by decide +kernel)
set_option maxRecDepth 20000 in
theorem wl_47 : GoodIn lw_tbl wsL_law0_r47 := goodIn_r _ [326, 968, 969, 970, 971, 972, 974, 34, 975, 976, 977, 979, 35, 980, 307, 981, 983, 36, 984, 985, 986, 987, 1748, 1749] (by decide +kernel) (by decide +kernel)
set_option maxRecDepth 20000 in
theorem wl_48 : GoodIn lw_tbl wsL_law0_r48 := goodIn_r _ [1750, 1751, 1752, 1754, 100, 1755, 1756, 1758, 101, 1759, 1261, 1760, 1762, 102, 1763, 1764, 1766, 103, 1767, 1768, 1770, 104, 1771, 989] (by decide +kernel) (by decide +kernel)
set_option maxRecDepth 20000 in
theorem wl_49 : GoodIn lw_tbl wsL_law0_r49 := goodIn_r _ [990, 991, 992, 993, 994, 995, 996, 997, 998, 999, 1000, 1772, 1773, 1774, 1775, 1776, 1778, 105, 1779, 1780, 1782, 106, 1783, 1784] (by decide +kernel) (by decide +kernel)
set_option maxRecDepth 20000 in
theorem wl_50 : GoodIn lw_tbl wsL_law0_r50 := goodIn_r _ [1785, 1786, 1787, 1788, 1001, 1002, 1003, 1004, 1005, 1006, 1007, 1008, 1010, 37, 1011, 1789, 1790, 1791, 1792, 1793, 1794, 1796, 107, 1797] (by decide +kernel) (by decide +kernel)
set_option maxRecDepth 20000 in
theorem wl_51 : GoodIn lw_tbl wsL_law0_r51 := goodIn_r _ [1012, 1013, 1014, 1015, 1016, 1017, 1018, 1019, 1020, 1021, 1798, 1799, 1800, 1801, 1022, 1023, 1024, 1025, 1026, 1027, 1028, 1029, 1030, 1031] (by decide +kernel) (by decide +kernel)
set_option maxRecDepth 20000 in
theorem wl_52 : GoodIn lw_tbl wsL_law0_r52 := goodIn_r _ [1802, 1803, 1804, 1805, 1806, 1032, 1033, 1034, 1035, 1036, 1037, 1038, 1039, 1040, 1041, 1042, 1043, 1044, 1045, 413, 1046, 1047, 1048, 1049] (by decide +kernel) (by decide +kernel)
set_option maxRecDepth 20000 in
theorem wl_53 : GoodIn lw_tbl wsL_law0_r53 := goodIn_r _ [1050, 1051, 1052, 1054, 38, 1055, 1056, 1058, 39, 1059, 1060, 1062, 40, 1063, 1064, 1065, 1066, 1067, 1807, 1808, 1809, 1810, 1269, 1811] (by decide +kernel) (by decide +kernel)
set_option maxRecDepth 20000 in
theorem wl_54 : GoodIn lw_tbl wsL_law0_r54 := goodIn_r _ [1812, 1813, 1814, 1815, 1817, 108, 1818, 1819, 1821, 109, 1822, 1823, 1825, 110, 1826, 1068, 1069, 1070, 1071, 1072, 1073, 1074, 1075, 1827] (by decide +kernel) (by decide +kernel)
set_option maxRecDepth 20000 in
theorem wl_55 : GoodIn lw_tbl wsL_law0_r55 := goodIn_r _ [1828, 1829, 1830, 1831, 1833, 111, 1834, 1076, 1077, 1078, 1079, 406, 1080, 1081, 1082, 1083, 1084, 1085, 1086, 1087, 1088, 1089, 1091, 41] (by decide +kernel) (by decide +kernel)
set_option maxRecDepth 20000 in
theorem wl_56 : GoodIn lw_tbl wsL_law0_r56 := goodIn_r _ [1092, 1093, 1835, 1836, 1837, 1838, 1094, 1095, 1096, 1097, 408, 1098, 1099, 1100, 1101, 1839, 1840, 1841, 1842, 1843, 1845, 112, 1846, 1102] (by decide +kernel) (by decide +kernel)
set_option maxRecDepth 20000 in
theorem wl_57 : GoodIn lw_tbl wsL_law0_r57 := goodIn_r _ [1103, 1104, 1105, 1106, 1107, 1108, 1109, 1110, 1111, 1112, 1114, 42, 1115, 1847, 1848, 1849, 1850, 1851, 1853, 113, 1854, 1116, 1117, 1118] (by decide +kernel) (by decide +kernel)
set_option maxRecDepth 20000 in
theorem wl_58 : GoodIn lw_tbl wsL_law0_r58 := goodIn_r _ [1119, 1120, 1121, 1122, 1123, 1124, 1125, 1126, 1127, 1128, 1129, 1130, 1132, 43, 1133, 1134, 1136, 44, 1137, 1138, 1140, 45, 1141, 1142] (by decide +kernel) (by decide +kernel)
set_option maxRecDepth 20000 in
theorem wl_59 : GoodIn lw_tbl wsL_law0_r59 := goodIn_r _ [1855, 1856, 1857, 1858, 1859, 1861, 114, 1862, 1863, 1864, 1866, 115, 1867, 1868, 1870, 116, 1871, 1872, 1874, 117, 1875, 1876, 1878, 118] (by decide +kernel) (by decide +kernel)
set_option maxRecDepth 20000 in
theorem wl_60 : GoodIn lw_tbl wsL_law0_r60 := goodIn_r _ [1879] (by decide +kernel) (by decide +kernel)
set_option maxRecDepth 20000 in
theorem wl_X0 : GoodIn lw_tbl wsX00 := goodIn_r _ [268, 270, 272, 274, 276, 278, 280, 282, 284, 286, 288, 290, 292] (by decide +kernel) (by decide +kernel)
set_option maxRecDepth 20000 in
theorem wl_X1 : GoodIn lw_tbl wsX10 := goodIn_r _ [215, 217, 219, 221, 223, 225] (by decide +kernel) (by decide +kernel)
set_option maxRecDepth 20000 in
theorem wl_X2 : GoodIn lw_tbl wsX20 := goodIn_r _ [236, 238] (by decide +kernel) (by decide +kernel)
set_option maxRecDepth 20000 in
theorem wl_X3 : GoodIn lw_tbl wsX30 := goodIn_r _ [331, 333, 335, 337, 339, 341, 343] (by decide +kernel) (by decide +kernel)
set_option maxRecDepth 20000 in
theorem wl_X4 : GoodIn lw_tbl wsX40 := goodIn_r _ [362, 364, 366, 368, 370, 372, 374] (by decide +kernel) (by decide +kernel)
set_option maxRecDepth 20000 in
theorem wl_X5 : GoodIn lw_tbl wsX50 := goodIn_r _ [182, 184, 186, 188, 190, 192, 194] (by decide +kernel) (by decide +kernel)
set_option maxRecDepth 20000 in
theorem wl_X6 : GoodIn lw_tbl wsX60 := goodIn_r _ [387, 389, 391, 393] (by decide +kernel) (by decide +kernel)
set_option maxRecDepth 20000 in
theorem wl_X7 : GoodIn lw_tbl wsX70 := goodIn_r _ [415, 417, 419, 421, 423, 425, 427, 429, 431, 433] (by decide +kernel) (by decide +kernel)
set_option maxRecDepth 20000 in
theorem wl_X8 : GoodIn lw_tbl wsX80 := goodIn_r _ [308, 310, 312, 314] (by decide +kernel) (by decide +kernel)
set_option maxRecDepth 20000 in
theorem wl_X9 : GoodIn lw_tbl wsX90 := goodIn_r _ [159, 161] (by decide +kernel) (by decide +kernel)
set_option maxRecDepth 20000 in
theorem wl_X10 : GoodIn lw_tbl wsX100 := goodIn_r _ [449, 451, 453, 455, 457, 459, 461, 463, 465, 467, 469, 471, 473] (by decide +kernel) (by decide +kernel)
set_option maxRecDepth 20000 in
theorem wl_X11 : GoodIn lw_tbl wsX110 := goodIn_r _ [1274, 1276, 1278, 1280, 1282, 1284, 1286, 1288, 1290, 1292, 1294, 1296, 1298, 1300, 1302, 1304, 1306, 1308, 1310, 1312, 1314, 1316, 1318, 1320, 1322, 1324, 1326, 1328, 1330, 1332, 1334, 1336, 1338, 1340, 1342, 1344, 1346, 1348, 1350, 1352, 1354, 1356, 1358, 1360, 1362, 1364, 1366, 1368, 1370, 1372, 1374, 1376] (by decide +kernel) (by decide +kernel)
set_option maxRecDepth 20000 in
theorem wl_all : GoodIn lw_tbl wsL_law0 := (goodIn_app (goodIn_app (goodIn_app (goodIn_app (goodIn_app (goodIn_app (goodIn_app (goodIn_app (goodIn_app (goodIn_app (goodIn_app (goodIn_app (goodIn_app (goodIn_app wl_1 (goodIn_app wl_2 (goodIn_app wl_3 (goodIn_app wl_4 (goodIn_app wl_5 (goodIn_app wl_6 (goodIn_app wl_7 (goodIn_app wl_8 (goodIn_app wl_9 (goodIn_app wl_10 (goodIn_app wl_11 (goodIn_app wl_12 (goodIn_app wl_13 (goodIn_app wl_14 (goodIn_app wl_15 (goodIn_app wl_16 (goodIn_app wl_17 (goodIn_app wl_18 (goodIn_app wl_19 (goodIn_app wl_20 (goodIn_app wl_21 (goodIn_app wl_22 (goodIn_app wl_23 (goodIn_app wl_24 (goodIn_app wl_25 (goodIn_app wl_26 (goodIn_app wl_27 (goodIn_app wl_28 (goodIn_app wl_29 (goodIn_app wl_30 (goodIn_app wl_31 (goodIn_app wl_32 (goodIn_app wl_33 (goodIn_app wl_34 (goodIn_app wl_35 (goodIn_app wl_36 (goodIn_app wl_37 (goodIn_app wl_38 (goodIn_app wl_39 (goodIn_app wl_40 (goodIn_app wl_41 (goodIn_app wl_42 (goodIn_app wl_43 (goodIn_app wl_44 (goodIn_app wl_45 (goodIn_app wl_46 (goodIn_app wl_47 (goodIn_app wl_48 (goodIn_app wl_49 (goodIn_app wl_50 (goodIn_app wl_51 (goodIn_app wl_52 (goodIn_app wl_53 (goodIn_app wl_54 (goodIn_app wl_55 (goodIn_app wl_56 (goodIn_app wl_57 (goodIn_app wl_58 (goodIn_app wl_59 wl_60))))))))))))))))))))))))))))))))))))))))))))))))))))))))))) wl_X10) wl_X11) wl_X9) wl_X5) wl_X1) wl_X2) wl_X0) wl_X8) wl_X3) wl_X4) wl_X6) wl_X7) (fun _ h => nomatch h))
theorem wl_in : ∀ w ∈ wsL_law0, w ∈ lw_tbl := fun w h => (wl_all w h).1
