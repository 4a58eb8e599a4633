/-! words of the methods -/
def q_cw (y : Nat) : Cond := if (q_hs y).isEmpty = true then .code (q_y y) (q_bytes y) (q_mr y).2.2.2.1 (q_rty (q_mr y).2.2.2.2.1) else .codeWith (q_y y) (q_bytes y) (q_mr y).2.2.2.1 (q_rty (q_mr y).2.2.2.2.1) ((q_hs y).map fun r => (r.1, r.2.1, r.2.2.1, r.2.2.2.1))
def q_mw (y : Nat) : List Cond := (if (q_mr y).2.1 = true then [.static (q_y y)] else if (q_mr y).2.2.1 = true then [.instanceMethod (q_y y)] else [.instanceMethod (q_y y), .selects (q_R (q_mr y).1) (q_y y) (q_y y)]) ++ [.initialized (q_R (q_mr y).1), q_cw y]
def q_mp (y : Nat) : Bool := plainName (q_y y).cls && (decide ((q_y y).cls = q_R (q_mr y).1) && (decide ((q_y y).cls ≠ "java/lang/invoke/MethodHandle" ∧ (q_y y).cls ≠ "java/lang/invoke/VarHandle") && (decide ((parseMethodDescriptor (q_y y).desc).map (fun d => d.parameters.length) = some ((q_mr y).2.2.2.2.2.1 - if (q_mr y).2.1 = true then 0 else 1)) && (!(q_mr y).2.2.1 || decide ((q_y y).name = "<init>")))))
theorem q_mw_0 : ∀ y, y < 20 → ∀ w ∈ q_mw (y + 0), w ∈ lw_tbl := fun y hy w hw => q_mem_of (ws := (List.range 20).flatMap fun y => q_mw (y + 0)) [278, 140, 279, 958, 959, 140, 960, 971, 972, 140, 973, 1099, 1100, 140, 1101, 1115, 1116, 140, 1117, 1111, 1112, 140, 1113, 1209, 1210, 140, 1211, 995, 996, 140, 997, 594, 595, 140, 596, 598, 599, 140, 600, 609, 610, 140, 611, 1095, 1096, 140, 1097, 1153, 1154, 140, 1155, 1162, 1163, 140, 1164, 1158, 1159, 140, 1160, 1149, 1150, 140, 1151, 1091, 1092, 140, 1093, 1056, 1057, 140, 1058, 1177, 1178, 140, 1179, 1198, 1199, 140, 1200] (by decide +kernel) (List.mem_flatMap.mpr ⟨y, List.mem_range.mpr hy, hw⟩)
theorem q_mp_0 : ∀ y, y < 20 → q_mp (y + 0) = true := by decide +kernel
theorem q_mw_20 : ∀ y, y < 20 → ∀ w ∈ q_mw (y + 20), w ∈ lw_tbl := fun y hy w hw => q_mem_of (ws := (List.range 20).flatMap fun y => q_mw (y + 20)) [199, 137, 200, 582, 583, 137, 584, 646, 0, 137, 647, 590, 591, 137, 592, 602, 137, 603, 639, 137, 640, 642, 137, 643, 606, 137, 607, 629, 137, 630, 632, 137, 633, 377, 142, 378, 1239, 1240, 142, 1241, 1244, 23, 142, 1245, 1266, 24, 142, 1267, 1271, 25, 142, 1272, 362, 141, 363, 1173, 1174, 141, 1175, 1216, 21, 141, 1217, 1221, 22, 141, 1222, 385, 143, 386] (by decide +kernel) (List.mem_flatMap.mpr ⟨y, List.mem_range.mpr hy, hw⟩)
theorem q_mp_20 : ∀ y, y < 20 → q_mp (y + 20) = true := by decide +kernel
theorem q_mw_40 : ∀ y, y < 20 → ∀ w ∈ q_mw (y + 40), w ∈ lw_tbl := fun y hy w hw => q_mem_of (ws := (List.range 20).flatMap fun y => q_mw (y + 40)) [1252, 1253, 143, 1254, 1248, 1249, 143, 1250, 1275, 1276, 143, 1277, 209, 138, 210, 1457, 1458, 138, 1459, 1518, 40, 138, 1519, 1462, 28, 138, 1463, 1468, 29, 138, 1469, 1472, 30, 138, 1473, 1480, 32, 138, 1481, 1476, 31, 138, 1477, 1484, 33, 138, 1485, 1506, 38, 138, 1507, 1489, 34, 138, 1490, 1493, 35, 138, 1494, 1498, 36, 138, 1499, 1509, 138, 1510, 1513, 39, 138, 1514, 1502, 37, 138, 1503, 429, 145, 430] (by decide +kernel) (List.mem_flatMap.mpr ⟨y, List.mem_range.mpr hy, hw⟩)
theorem q_mp_40 : ∀ y, y < 20 → q_mp (y + 40) = true := by decide +kernel
theorem q_mw_60 : ∀ y, y < 20 → ∀ w ∈ q_mw (y + 60), w ∈ lw_tbl := fun y hy w hw => q_mem_of (ws := (List.range 20).flatMap fun y => q_mw (y + 60)) [1348, 1349, 145, 1350, 1361, 1362, 145, 1363, 1365, 145, 1366, 1368, 145, 1369, 1372, 145, 1373, 1376, 145, 1377, 1380, 145, 1381, 1396, 1397, 145, 1398, 1415, 1416, 145, 1417, 439, 146, 440, 987, 988, 146, 989, 899, 900, 146, 901, 923, 924, 146, 925, 1086, 1087, 146, 1088, 954, 955, 146, 956, 962, 963, 146, 964, 1330, 1331, 146, 1332, 1383, 1384, 146, 1385, 864, 865, 146, 866, 586, 587, 146, 588] (by decide +kernel) (List.mem_flatMap.mpr ⟨y, List.mem_range.mpr hy, hw⟩)
theorem q_mp_60 : ∀ y, y < 20 → q_mp (y + 60) = true := by decide +kernel
theorem q_mw_80 : ∀ y, y < 20 → ∀ w ∈ q_mw (y + 80), w ∈ lw_tbl := fun y hy w hw => q_mem_of (ws := (List.range 20).flatMap fun y => q_mw (y + 80)) [1021, 1022, 146, 1023, 1000, 1001, 146, 1002, 657, 658, 146, 659, 918, 919, 146, 920, 625, 626, 146, 627, 621, 622, 146, 623, 617, 618, 146, 619, 914, 915, 146, 916, 653, 654, 146, 655, 948, 949, 146, 950, 635, 636, 146, 637, 1051, 1052, 146, 1053, 1181, 1182, 146, 1183, 649, 650, 146, 651, 661, 662, 146, 663, 1039, 1040, 146, 1041, 1044, 14, 146, 1045, 1047, 1048, 146, 1049, 613, 614, 146, 615, 1136, 1137, 146, 1138] (by decide +kernel) (List.mem_flatMap.mpr ⟨y, List.mem_range.mpr hy, hw⟩)
theorem q_mp_80 : ∀ y, y < 20 → q_mp (y + 80) = true := by decide +kernel
theorem q_mw_100 : ∀ y, y < 20 → ∀ w ∈ q_mw (y + 100), w ∈ lw_tbl := fun y hy w hw => q_mem_of (ws := (List.range 20).flatMap fun y => q_mw (y + 100)) [1256, 1257, 146, 1258, 1105, 1106, 146, 1107, 1194, 1195, 146, 1196, 1185, 1186, 146, 1187, 1190, 20, 146, 1191, 272, 139, 273, 1035, 1036, 139, 1037, 1081, 1082, 139, 1083, 1140, 1141, 139, 1142, 1146, 139, 1147, 417, 144, 418, 1289, 1290, 144, 1291, 1300, 26, 144, 1301, 1314, 1315, 144, 1316, 1318, 144, 1319, 1322, 144, 1323, 1326, 144, 1327, 1335, 27, 144, 1336, 1338, 144, 1339, 168, 136, 169] (by decide +kernel) (List.mem_flatMap.mpr ⟨y, List.mem_range.mpr hy, hw⟩)
theorem q_mp_100 : ∀ y, y < 20 → q_mp (y + 100) = true := by decide +kernel
theorem q_mw_120 : ∀ y, y < 20 → ∀ w ∈ q_mw (y + 120), w ∈ lw_tbl := fun y hy w hw => q_mem_of (ws := (List.range 20).flatMap fun y => q_mw (y + 120)) [753, 754, 136, 755, 758, 3, 136, 759, 966, 967, 136, 968, 160, 135, 161, 677, 678, 135, 679, 768, 769, 135, 770, 795, 796, 135, 797, 803, 804, 135, 805, 830, 831, 135, 832, 837, 838, 135, 839, 848, 849, 135, 850, 856, 857, 135, 858, 872, 873, 135, 874, 880, 881, 135, 882, 887, 888, 135, 889, 894, 895, 135, 896, 906, 907, 135, 908, 930, 931, 135, 932, 578, 579, 135, 580, 978, 979, 135, 980] (by decide +kernel) (List.mem_flatMap.mpr ⟨y, List.mem_range.mpr hy, hw⟩)
theorem q_mp_120 : ∀ y, y < 20 → q_mp (y + 120) = true := by decide +kernel
theorem q_mw_140 : ∀ y, y < 20 → ∀ w ∈ q_mw (y + 140), w ∈ lw_tbl := fun y hy w hw => q_mem_of (ws := (List.range 20).flatMap fun y => q_mw (y + 140)) [1013, 1014, 135, 1015, 1071, 1072, 135, 1073, 1123, 1124, 135, 1125, 1169, 1170, 135, 1171, 1235, 1236, 135, 1237, 1285, 1286, 135, 1287, 1310, 1311, 135, 1312, 1344, 1345, 135, 1346, 1357, 1358, 135, 1359, 1392, 1393, 135, 1394, 1411, 1412, 135, 1413, 1423, 1424, 135, 1425, 1431, 1432, 135, 1433, 1441, 1442, 135, 1443, 1449, 1450, 135, 1451, 665, 666, 135, 667, 669, 670, 135, 671, 682, 1, 135, 683, 808, 5, 135, 809, 842, 6, 135, 843] (by decide +kernel) (List.mem_flatMap.mpr ⟨y, List.mem_range.mpr hy, hw⟩)
theorem q_mp_140 : ∀ y, y < 20 → q_mp (y + 140) = true := by decide +kernel
theorem q_mw_160 : ∀ y, y < 20 → ∀ w ∈ q_mw (y + 160), w ∈ lw_tbl := fun y hy w hw => q_mem_of (ws := (List.range 20).flatMap fun y => q_mw (y + 160)) [773, 4, 135, 774, 1027, 12, 135, 1028, 861, 7, 135, 862, 911, 8, 135, 912, 938, 9, 135, 939, 1018, 11, 135, 1019, 1132, 19, 135, 1133, 1128, 18, 135, 1129, 1076, 17, 135, 1077, 983, 10, 135, 984, 934, 135, 935, 941, 135, 942, 1032, 13, 135, 1033, 1061, 15, 135, 1062, 1065, 16, 135, 1066, 1202, 135, 1203, 1523, 147, 1524, 1671, 1672, 147, 1673, 1680, 41, 147, 1681, 1697, 147, 1698] (by decide +kernel) (List.mem_flatMap.mpr ⟨y, List.mem_range.mpr hy, hw⟩)
theorem q_mp_160 : ∀ y, y < 20 → q_mp (y + 160) = true := by decide +kernel
theorem q_mw_180 : ∀ y, y < 20 → ∀ w ∈ q_mw (y + 180), w ∈ lw_tbl := fun y hy w hw => q_mem_of (ws := (List.range 20).flatMap fun y => q_mw (y + 180)) [1694, 147, 1695, 1709, 43, 147, 1710, 1684, 42, 147, 1685, 1687, 147, 1688, 1713, 44, 147, 1714, 1675, 1676, 147, 1677, 1690, 1691, 147, 1692, 1700, 1701, 147, 1702, 1704, 1705, 147, 1706, 1716, 1717, 147, 1718, 1720, 1721, 147, 1722, 1724, 1725, 147, 1726, 1728, 1729, 147, 1730, 1736, 1737, 147, 1738, 1740, 1741, 147, 1742, 1744, 1745, 147, 1746, 1793, 54, 147, 1794, 1801, 56, 147, 1802, 1813, 59, 147, 1814, 1837, 64, 147, 1838] (by decide +kernel) (List.mem_flatMap.mpr ⟨y, List.mem_range.mpr hy, hw⟩)
theorem q_mp_180 : ∀ y, y < 20 → q_mp (y + 180) = true := by decide +kernel
theorem q_mw_200 : ∀ y, y < 20 → ∀ w ∈ q_mw (y + 200), w ∈ lw_tbl := fun y hy w hw => q_mem_of (ws := (List.range 20).flatMap fun y => q_mw (y + 200)) [1845, 66, 147, 1846, 1841, 65, 147, 1842, 1809, 58, 147, 1810, 1901, 79, 147, 1902, 1733, 45, 147, 1734, 1757, 46, 147, 1758, 1909, 80, 147, 1910, 1773, 50, 147, 1774, 1769, 49, 147, 1770, 1765, 48, 147, 1766, 1777, 51, 147, 1778, 1853, 68, 147, 1854, 1761, 47, 147, 1762, 1789, 53, 147, 1790, 1885, 76, 147, 1886, 1997, 97, 147, 1998, 1748, 1749, 147, 1750, 1752, 1753, 147, 1754, 1785, 52, 147, 1786, 1780, 1781, 147, 1782] (by decide +kernel) (List.mem_flatMap.mpr ⟨y, List.mem_range.mpr hy, hw⟩)
theorem q_mp_200 : ∀ y, y < 20 → q_mp (y + 200) = true := by decide +kernel
theorem q_mw_220 : ∀ y, y < 20 → ∀ w ∈ q_mw (y + 220), w ∈ lw_tbl := fun y hy w hw => q_mem_of (ws := (List.range 20).flatMap fun y => q_mw (y + 220)) [1797, 55, 147, 1798, 1805, 57, 147, 1806, 1833, 63, 147, 1834, 1861, 70, 147, 1862, 1829, 62, 147, 1830, 1849, 67, 147, 1850, 1869, 72, 147, 1870, 1873, 73, 147, 1874, 1857, 69, 147, 1858, 1865, 71, 147, 1866, 1877, 74, 147, 1878, 1881, 75, 147, 1882, 1825, 61, 147, 1826, 1893, 78, 147, 1894, 1889, 77, 147, 1890, 1821, 60, 147, 1822, 1816, 1817, 147, 1818, 1896, 1897, 147, 1898, 1904, 1905, 147, 1906, 1925, 83, 147, 1926] (by decide +kernel) (List.mem_flatMap.mpr ⟨y, List.mem_range.mpr hy, hw⟩)
theorem q_mp_220 : ∀ y, y < 20 → q_mp (y + 220) = true := by decide +kernel
theorem q_mw_240 : ∀ y, y < 20 → ∀ w ∈ q_mw (y + 240), w ∈ lw_tbl := fun y hy w hw => q_mem_of (ws := (List.range 20).flatMap fun y => q_mw (y + 240)) [1920, 1921, 147, 1922, 1933, 84, 147, 1934, 1965, 92, 147, 1966, 1941, 86, 147, 1942, 1957, 90, 147, 1958, 1949, 88, 147, 1950, 1937, 85, 147, 1938, 1945, 87, 147, 1946, 1953, 89, 147, 1954, 1961, 91, 147, 1962, 1969, 93, 147, 1970, 1973, 94, 147, 1974, 1928, 1929, 147, 1930, 1976, 1977, 147, 1978, 1980, 1981, 147, 1982, 1913, 81, 147, 1914, 1917, 82, 147, 1918, 1993, 96, 147, 1994, 2076, 113, 147, 2077, 2080, 114, 147, 2081] (by decide +kernel) (List.mem_flatMap.mpr ⟨y, List.mem_range.mpr hy, hw⟩)
theorem q_mp_240 : ∀ y, y < 20 → q_mp (y + 240) = true := by decide +kernel
theorem q_mw_260 : ∀ y, y < 20 → ∀ w ∈ q_mw (y + 260), w ∈ lw_tbl := fun y hy w hw => q_mem_of (ws := (List.range 20).flatMap fun y => q_mw (y + 260)) [2041, 107, 147, 2042, 2037, 106, 147, 2038, 2092, 117, 147, 2093, 2048, 108, 147, 2049, 2052, 109, 147, 2053, 2001, 98, 147, 2002, 2033, 105, 147, 2034, 2044, 147, 2045, 2013, 101, 147, 2014, 2060, 110, 147, 2061, 2005, 99, 147, 2006, 2017, 102, 147, 2018, 1989, 95, 147, 1990, 2088, 116, 147, 2089, 2084, 115, 147, 2085, 1984, 1985, 147, 1986, 2009, 100, 147, 2010, 2025, 103, 147, 2026, 2029, 104, 147, 2030, 2020, 2021, 147, 2022] (by decide +kernel) (List.mem_flatMap.mpr ⟨y, List.mem_range.mpr hy, hw⟩)
theorem q_mp_260 : ∀ y, y < 20 → q_mp (y + 260) = true := by decide +kernel
theorem q_mw_280 : ∀ y, y < 20 → ∀ w ∈ q_mw (y + 280), w ∈ lw_tbl := fun y hy w hw => q_mem_of (ws := (List.range 20).flatMap fun y => q_mw (y + 280)) [2055, 2056, 147, 2057, 2064, 111, 147, 2065, 2072, 112, 147, 2073, 2163, 130, 147, 2164, 2067, 2068, 147, 2069, 2096, 118, 147, 2097, 2104, 119, 147, 2105, 2112, 121, 147, 2113, 2127, 147, 2128, 2120, 123, 147, 2121, 2124, 124, 147, 2125, 2108, 120, 147, 2109, 2099, 2100, 147, 2101, 2116, 122, 147, 2117, 2135, 125, 147, 2136, 2130, 2131, 147, 2132, 2151, 128, 147, 2152, 2143, 126, 147, 2144, 2147, 127, 147, 2148, 2155, 129, 147, 2156] (by decide +kernel) (List.mem_flatMap.mpr ⟨y, List.mem_range.mpr hy, hw⟩)
theorem q_mp_280 : ∀ y, y < 20 → q_mp (y + 280) = true := by decide +kernel
theorem q_mw_300 : ∀ y, y < 20 → ∀ w ∈ q_mw (y + 300), w ∈ lw_tbl := fun y hy w hw => q_mem_of (ws := (List.range 20).flatMap fun y => q_mw (y + 300)) [2138, 2139, 147, 2140, 2158, 2159, 147, 2160, 2171, 131, 147, 2172, 2166, 2167, 147, 2168, 2175, 132, 147, 2176, 2179, 133, 147, 2180, 2182, 2183, 147, 2184, 2186, 2187, 147, 2188, 2190, 2191, 147, 2192, 1004, 156, 1005, 673, 134, 674, 764, 134, 765, 792, 134, 793, 799, 134, 800, 827, 134, 828, 834, 134, 835, 845, 134, 846, 853, 134, 854, 869, 134, 870, 877, 134, 878] (by decide +kernel) (List.mem_flatMap.mpr ⟨y, List.mem_range.mpr hy, hw⟩)
theorem q_mp_300 : ∀ y, y < 20 → q_mp (y + 300) = true := by decide +kernel
theorem q_mw_320 : ∀ y, y < 20 → ∀ w ∈ q_mw (y + 320), w ∈ lw_tbl := fun y hy w hw => q_mem_of (ws := (List.range 20).flatMap fun y => q_mw (y + 320)) [884, 134, 885, 891, 134, 892, 903, 134, 904, 927, 134, 928, 975, 134, 976, 1010, 134, 1011, 1068, 134, 1069, 1120, 134, 1121, 1166, 134, 1167, 1232, 134, 1233, 1282, 134, 1283, 1307, 134, 1308, 1341, 134, 1342, 1354, 134, 1355, 1389, 134, 1390, 1408, 134, 1409, 1420, 134, 1421, 1428, 134, 1429, 1438, 134, 1439, 1446, 134, 1447] (by decide +kernel) (List.mem_flatMap.mpr ⟨y, List.mem_range.mpr hy, hw⟩)
theorem q_mp_320 : ∀ y, y < 20 → q_mp (y + 320) = true := by decide +kernel
theorem q_mws : ∀ y, y < 340 → ∀ w ∈ q_mw y, w ∈ lw_tbl := by
  intro y hy
  have key : ∀ k n : Nat, (∀ y, y < n → ∀ w ∈ q_mw (y + k), w ∈ lw_tbl) → k ≤ y → y < k + n → ∀ w ∈ q_mw y, w ∈ lw_tbl := fun k n h h1 h2 => by
    have := h (y - k) (by omega)
    rwa [Nat.sub_add_cancel h1] at this
  rcases Nat.lt_or_ge y 20 with h0 | h0
  · exact key 0 20 q_mw_0 (by omega) (by omega)
  rcases Nat.lt_or_ge y 40 with h20 | h20
  · exact key 20 20 q_mw_20 (by omega) (by omega)
  rcases Nat.lt_or_ge y 60 with h40 | h40
  · exact key 40 20 q_mw_40 (by omega) (by omega)
  rcases Nat.lt_or_ge y 80 with h60 | h60
  · exact key 60 20 q_mw_60 (by omega) (by omega)
  rcases Nat.lt_or_ge y 100 with h80 | h80
  · exact key 80 20 q_mw_80 (by omega) (by omega)
  rcases Nat.lt_or_ge y 120 with h100 | h100
  · exact key 100 20 q_mw_100 (by omega) (by omega)
  rcases Nat.lt_or_ge y 140 with h120 | h120
  · exact key 120 20 q_mw_120 (by omega) (by omega)
  rcases Nat.lt_or_ge y 160 with h140 | h140
  · exact key 140 20 q_mw_140 (by omega) (by omega)
  rcases Nat.lt_or_ge y 180 with h160 | h160
  · exact key 160 20 q_mw_160 (by omega) (by omega)
  rcases Nat.lt_or_ge y 200 with h180 | h180
  · exact key 180 20 q_mw_180 (by omega) (by omega)
  rcases Nat.lt_or_ge y 220 with h200 | h200
  · exact key 200 20 q_mw_200 (by omega) (by omega)
  rcases Nat.lt_or_ge y 240 with h220 | h220
  · exact key 220 20 q_mw_220 (by omega) (by omega)
  rcases Nat.lt_or_ge y 260 with h240 | h240
  · exact key 240 20 q_mw_240 (by omega) (by omega)
  rcases Nat.lt_or_ge y 280 with h260 | h260
  · exact key 260 20 q_mw_260 (by omega) (by omega)
  rcases Nat.lt_or_ge y 300 with h280 | h280
  · exact key 280 20 q_mw_280 (by omega) (by omega)
  rcases Nat.lt_or_ge y 320 with h300 | h300
  · exact key 300 20 q_mw_300 (by omega) (by omega)
  rcases Nat.lt_or_ge y 340 with h320 | h320
  · exact key 320 20 q_mw_320 (by omega) (by omega)
  omega
theorem q_mps : ∀ y, y < 340 → q_mp y = true := by
  intro y hy
  have key : ∀ k n : Nat, (∀ y, y < n → q_mp (y + k) = true) → k ≤ y → y < k + n → q_mp y = true := fun k n h h1 h2 => by
    have := h (y - k) (by omega)
    rwa [Nat.sub_add_cancel h1] at this
  rcases Nat.lt_or_ge y 20 with h0 | h0
  · exact key 0 20 q_mp_0 (by omega) (by omega)
  rcases Nat.lt_or_ge y 40 with h20 | h20
  · exact key 20 20 q_mp_20 (by omega) (by omega)
  rcases Nat.lt_or_ge y 60 with h40 | h40
  · exact key 40 20 q_mp_40 (by omega) (by omega)
  rcases Nat.lt_or_ge y 80 with h60 | h60
  · exact key 60 20 q_mp_60 (by omega) (by omega)
  rcases Nat.lt_or_ge y 100 with h80 | h80
  · exact key 80 20 q_mp_80 (by omega) (by omega)
  rcases Nat.lt_or_ge y 120 with h100 | h100
  · exact key 100 20 q_mp_100 (by omega) (by omega)
  rcases Nat.lt_or_ge y 140 with h120 | h120
  · exact key 120 20 q_mp_120 (by omega) (by omega)
  rcases Nat.lt_or_ge y 160 with h140 | h140
  · exact key 140 20 q_mp_140 (by omega) (by omega)
  rcases Nat.lt_or_ge y 180 with h160 | h160
  · exact key 160 20 q_mp_160 (by omega) (by omega)
  rcases Nat.lt_or_ge y 200 with h180 | h180
  · exact key 180 20 q_mp_180 (by omega) (by omega)
  rcases Nat.lt_or_ge y 220 with h200 | h200
  · exact key 200 20 q_mp_200 (by omega) (by omega)
  rcases Nat.lt_or_ge y 240 with h220 | h220
  · exact key 220 20 q_mp_220 (by omega) (by omega)
  rcases Nat.lt_or_ge y 260 with h240 | h240
  · exact key 240 20 q_mp_240 (by omega) (by omega)
  rcases Nat.lt_or_ge y 280 with h260 | h260
  · exact key 260 20 q_mp_260 (by omega) (by omega)
  rcases Nat.lt_or_ge y 300 with h280 | h280
  · exact key 280 20 q_mp_280 (by omega) (by omega)
  rcases Nat.lt_or_ge y 320 with h300 | h300
  · exact key 300 20 q_mp_300 (by omega) (by omega)
  rcases Nat.lt_or_ge y 340 with h320 | h320
  · exact key 320 20 q_mp_320 (by omega) (by omega)
  omega
theorem q_dall : ∀ y, y < 340 → q_dok (q_bytes y) (q_cs.getD y []) = true := fun y hy => q_conj_at (P := fun y => q_dok (q_bytes y) (q_cs.getD y []) = true) 340 0 y ⟨qd_0, qd_1, qd_2, qd_3, qd_4, qd_5, qd_6, qd_7, qd_8, qd_9, qd_10, qd_11, qd_12, qd_13, qd_14, qd_15, qd_16, qd_17, qd_18, qd_19, qd_20, qd_21, qd_22, qd_23, qd_24, qd_25, qd_26, qd_27, qd_28, qd_29, qd_30, qd_31, qd_32, qd_33, qd_34, qd_35, qd_36, qd_37, qd_38, qd_39, qd_40, qd_41, qd_42, qd_43, qd_44, qd_45, qd_46, qd_47, qd_48, qd_49, qd_50, qd_51, qd_52, qd_53, qd_54, qd_55, qd_56, qd_57, qd_58, qd_59, qd_60, qd_61, qd_62, qd_63, qd_64, qd_65, qd_66, qd_67, qd_68, qd_69, qd_70, qd_71, qd_72, qd_73, qd_74, qd_75, qd_76, qd_77, qd_78, qd_79, qd_80, qd_81, qd_82, qd_83, qd_84, qd_85, qd_86, qd_87, qd_88, qd_89, qd_90, qd_91, qd_92, qd_93, qd_94, qd_95, qd_96, qd_97, qd_98, qd_99, qd_100, qd_101, qd_102, qd_103, qd_104, qd_105, qd_106, qd_107, qd_108, qd_109, qd_110, qd_111, qd_112, qd_113, qd_114, qd_115, qd_116, qd_117, qd_118, qd_119, qd_120, qd_121, qd_122, qd_123, qd_124, qd_125, qd_126, qd_127, qd_128, qd_129, qd_130, qd_131, qd_132, qd_133, qd_134, qd_135, qd_136, qd_137, qd_138, qd_139, qd_140, qd_141, qd_142, qd_143, qd_144, qd_145, qd_146, qd_147, qd_148, qd_149, qd_150, qd_151, qd_152, qd_153, qd_154, qd_155, qd_156, qd_157, qd_158, qd_159, qd_160, qd_161, qd_162, qd_163, qd_164, qd_165, qd_166, qd_167, qd_168, qd_169, qd_170, qd_171, qd_172, qd_173, qd_174, qd_175, qd_176, qd_177, qd_178, qd_179, qd_180, qd_181, qd_182, qd_183, qd_184, qd_185, qd_186, qd_187, qd_188, qd_189, qd_190, qd_191, qd_192, qd_193, qd_194, qd_195, qd_196, qd_197, qd_198, qd_199, qd_200, qd_201, qd_202, qd_203, qd_204, qd_205, qd_206, qd_207, qd_208, qd_209, qd_210, qd_211, qd_212, qd_213, qd_214, qd_215, qd_216, qd_217, qd_218, qd_219, qd_220, qd_221, qd_222, qd_223, qd_224, qd_225, qd_226, qd_227, qd_228, qd_229, qd_230, qd_231, qd_232, qd_233, qd_234, qd_235, qd_236, qd_237, qd_238, qd_239, qd_240, qd_241, qd_242, qd_243, qd_244, qd_245, qd_246, qd_247, qd_248, qd_249, qd_250, qd_251, qd_252, qd_253, qd_254, qd_255, qd_256, qd_257, qd_258, qd_259, qd_260, qd_261, qd_262, qd_263, qd_264, qd_265, qd_266, qd_267, qd_268, qd_269, qd_270, qd_271, qd_272, qd_273, qd_274, qd_275, qd_276, qd_277, qd_278, qd_279, qd_280, qd_281, qd_282, qd_283, qd_284, qd_285, qd_286, qd_287, qd_288, qd_289, qd_290, qd_291, qd_292, qd_293, qd_294, qd_295, qd_296, qd_297, qd_298, qd_299, qd_300, qd_301, qd_302, qd_303, qd_304, qd_305, qd_306, qd_307, qd_308, qd_309, qd_310, qd_311, qd_312, qd_313, qd_314, qd_315, qd_316, qd_317, qd_318, qd_319, qd_320, qd_321, qd_322, qd_323, qd_324, qd_325, qd_326, qd_327, qd_328, qd_329, qd_330, qd_331, qd_332, qd_333, qd_334, qd_335, qd_336, qd_337, qd_338, qd_339, trivial⟩ (Nat.zero_le _) (by omega)
