def inT (l : List Cond) : Prop := ∀ w ∈ l, w ∈ lw_tbl ∧ goodWord w = true
theorem inT_of {l : List Cond} (ps : List Nat) (h : l = ps.filterMap (fun i => lw_tbl[i]?)) (g : l.all goodWord = true) : inT l := by
  intro w hw
  have hg := List.all_eq_true.mp g w hw
  rw [h] at hw
  obtain ⟨i, -, hi⟩ := List.mem_filterMap.mp hw
  exact ⟨List.mem_of_getElem? hi, hg⟩
theorem inT_app {a b : List Cond} (h1 : inT a) (h2 : inT b) : inT (a ++ b) := fun w hw => (List.mem_append.mp hw).elim (h1 w) (h2 w)
set_option maxRecDepth 100000 in
theorem zl0 : inT (lk_0.flatMap (lwd 0)) := inT_of [125, 126, 127, 128, 129, 130, 131, 426, 440, 435, 431, 417, 418, 422, 436, 445, 1264] (by decide +kernel) (by decide +kernel)
set_option maxRecDepth 100000 in
theorem zl1 : inT (lk_1.flatMap (lwd 1)) := inT_of [152, 153, 154, 155, 156, 1209, 796, 828] (by decide +kernel) (by decide +kernel)
set_option maxRecDepth 100000 in
theorem zl2 : inT (lk_2.flatMap (lwd 2)) := inT_of [488, 492, 493, 495, 496, 489, 490, 491, 494, 555, 550, 551, 556] (by decide +kernel) (by decide +kernel)
set_option maxRecDepth 100000 in
theorem zl3 : inT (lk_3.flatMap (lwd 3)) := inT_of [753, 754, 755, 756, 805, 806, 821, 810, 811, 815, 819, 820] (by decide +kernel) (by decide +kernel)
set_option maxRecDepth 100000 in
theorem zl4 : inT (lk_4.flatMap (lwd 4)) := inT_of [944, 945, 946, 947, 948, 949, 994] (by decide +kernel) (by decide +kernel)
set_option maxRecDepth 100000 in
theorem zl5 : inT (lk_5.flatMap (lwd 5)) := inT_of [308, 309, 310, 889, 892] (by decide +kernel) (by decide +kernel)
set_option maxRecDepth 100000 in
theorem zl6 : inT (lk_6.flatMap (lwd 6)) := inT_of [227, 228, 229, 231, 232, 230, 989, 985, 990, 1002, 1003, 233, 1020, 1016] (by decide +kernel) (by decide +kernel)
set_option maxRecDepth 100000 in
theorem zl7 : inT (lk_7.flatMap (lwd 7)) := inT_of [252, 253, 254, 255, 256, 910, 905, 911, 906] (by decide +kernel) (by decide +kernel)
set_option maxRecDepth 100000 in
theorem zl8 : inT (lk_8.flatMap (lwd 8)) := inT_of [173, 174, 176, 178, 180, 175, 177, 179, 181, 182, 183, 616, 730, 747, 620, 628, 722, 726, 738, 624, 632, 718, 737, 734] (by decide +kernel) (by decide +kernel)
set_option maxRecDepth 100000 in
theorem zl9 : inT (lk_9.flatMap (lwd 9)) := inT_of [214, 215, 216, 1192, 1196] (by decide +kernel) (by decide +kernel)
set_option maxRecDepth 100000 in
theorem zl10 : inT (lk_10.flatMap (lwd 10)) := inT_of [271, 272, 273, 274, 277, 278, 279, 280, 281, 275, 276, 1082, 1122, 1123, 1099, 1108, 1109] (by decide +kernel) (by decide +kernel)
set_option maxRecDepth 100000 in
theorem zl11_0 : inT (((lk_11.flatMap (lwd 11)).drop 0).take 50) := inT_of [117, 120, 122, 317, 147, 318, 319, 166, 320, 168, 322, 205, 323, 207, 325, 209, 211, 327, 328, 329, 330, 222, 332, 247, 333, 266, 334, 303, 335, 379, 382, 385, 389, 397, 400, 413, 450, 1350, 458, 462, 470, 474, 475, 476, 321, 485, 518, 522, 530, 534] (by decide +kernel) (by decide +kernel)
set_option maxRecDepth 100000 in
theorem zl11_1 : inT (((lk_11.flatMap (lwd 11)).drop 50).take 50) := inT_of [546, 1362, 1363, 1048, 563, 542, 559, 567, 575, 579, 584, 406, 592, 596, 604, 324, 612, 743, 750, 773, 801, 769, 780, 857, 861, 881, 885, 893, 897, 901, 792, 916, 784, 833, 845, 849, 927, 931, 837, 326, 941, 965, 969, 973, 777, 981, 998, 1008, 1012, 1024] (by decide +kernel) (by decide +kernel)
set_option maxRecDepth 100000 in
theorem zl11_2 : inT (((lk_11.flatMap (lwd 11)).drop 100).take 50) := inT_of [1032, 1383, 1387, 1042, 1043, 1044, 1050, 1058, 1062, 1104, 1110, 1066, 1118, 1100, 1124, 403, 1136, 1148, 1156, 1164, 1172, 1180, 841, 1188, 853, 1201, 1218, 824, 1219, 1222, 1225, 331, 1244, 1252, 1260, 1269, 1273, 1399, 788, 797, 829, 865, 869, 873, 1049, 1070, 1095, 1074, 1078, 1083] (by decide +kernel) (by decide +kernel)
set_option maxRecDepth 100000 in
theorem zl11_3 : inT (((lk_11.flatMap (lwd 11)).drop 150).take 50) := inT_of [1087, 1091, 1205] (by decide +kernel) (by decide +kernel)
theorem inT_cutzl11 {l : List Cond} (n : Nat) (h1 : inT (l.take n)) (h2 : inT (l.drop n)) : inT l := by
  rw [← List.take_append_drop n l]
  exact inT_app h1 h2
set_option maxRecDepth 100000 in
theorem zl11 : inT (lk_11.flatMap (lwd 11)) := by
  have e3 : inT ((lk_11.flatMap (lwd 11)).drop 150) := by
    have h := zl11_3
    rwa [List.take_of_length_le (Nat.le_of_ble_eq_true (by decide +kernel))] at h
  have e2 : inT ((lk_11.flatMap (lwd 11)).drop 100) := inT_cutzl11 50 zl11_2 (by rw [List.drop_drop]; exact e3)
  have e1 : inT ((lk_11.flatMap (lwd 11)).drop 50) := inT_cutzl11 50 zl11_1 (by rw [List.drop_drop]; exact e2)
  have e0 : inT ((lk_11.flatMap (lwd 11)).drop 0) := inT_cutzl11 50 zl11_0 (by rw [List.drop_drop]; exact e1)
  exact e0
set_option maxRecDepth 100000 in
theorem zl12_0 : inT (((lk_12.flatMap (lwd 12)).drop 0).take 50) := inT_of [1408, 1410, 1411, 1412, 1413, 1414, 1415, 1417, 1418, 1419, 1420, 1421, 1422, 1424, 1425, 1426, 1428, 1429, 1430, 1431, 1432, 1433, 1434, 1436, 1437, 1438, 1439, 1440, 1441, 1443, 1446, 1453, 1454, 1456, 1461, 1462, 1445, 1444, 1793, 1682, 1409, 1583, 1416, 1423, 1427, 1580, 1586, 1594, 1595, 1608] (by decide +kernel) (by decide +kernel)
set_option maxRecDepth 100000 in
theorem zl12_1 : inT (((lk_12.flatMap (lwd 12)).drop 50).take 50) := inT_of [1604, 1600, 1617, 1629, 1641, 1653, 1661, 1657, 1662, 1666, 1674, 1678, 1694, 1442, 1449, 1448, 1447, 1734, 1450, 1742, 1714, 1730, 1718, 1722, 1726, 1738, 1710, 1451, 1746, 1452, 1750, 1758, 1762, 1455, 1770, 1773, 1777, 1785, 1789, 1796, 1804, 1827, 1843, 1839, 1835, 1457, 1863, 1859, 1851, 1855] (by decide +kernel) (by decide +kernel)
set_option maxRecDepth 100000 in
theorem zl12_2 : inT (((lk_12.flatMap (lwd 12)).drop 100).take 50) := inT_of [1871, 1880, 1459, 1458, 1900, 1896, 1888, 1892, 1460, 1908, 1920, 1948, 1967, 1974, 1435, 1989] (by decide +kernel) (by decide +kernel)
theorem inT_cutzl12 {l : List Cond} (n : Nat) (h1 : inT (l.take n)) (h2 : inT (l.drop n)) : inT l := by
  rw [← List.take_append_drop n l]
  exact inT_app h1 h2
set_option maxRecDepth 100000 in
theorem zl12 : inT (lk_12.flatMap (lwd 12)) := by
  have e2 : inT ((lk_12.flatMap (lwd 12)).drop 100) := by
    have h := zl12_2
    rwa [List.take_of_length_le (Nat.le_of_ble_eq_true (by decide +kernel))] at h
  have e1 : inT ((lk_12.flatMap (lwd 12)).drop 50) := inT_cutzl12 50 zl12_1 (by rw [List.drop_drop]; exact e2)
  have e0 : inT ((lk_12.flatMap (lwd 12)).drop 0) := inT_cutzl12 50 zl12_0 (by rw [List.drop_drop]; exact e1)
  exact e0
set_option maxRecDepth 100000 in
theorem zl13_0 : inT (((lk_13.flatMap (lwd 13)).drop 0).take 50) := inT_of [1281, 112, 1357, 1370, 1378, 1394, 114, 1403, 1405, 375, 1576, 393, 1590, 409, 1596, 446, 1609, 1277, 1613, 1572, 454, 1621, 466, 1625, 480, 1633, 514, 1637, 526, 1645, 1354, 1649, 538, 1670, 571, 1686, 580, 1690, 588, 1698, 600, 1702, 608, 1706, 1367, 1754, 765, 1766, 877, 1781] (by decide +kernel) (by decide +kernel)
set_option maxRecDepth 100000 in
theorem zl13_1 : inT (((lk_13.flatMap (lwd 13)).drop 50).take 50) := inT_of [912, 1800, 919, 1807, 923, 1811, 932, 1815, 936, 1819, 961, 1823, 977, 1831, 1004, 1847, 1028, 1867, 1375, 1872, 1038, 1876, 1054, 1884, 1114, 1904, 1128, 1912, 1132, 1916, 1140, 1924, 1144, 1928, 1152, 1932, 1160, 1936, 1168, 1940, 1176, 1944, 1184, 1951, 1197, 1955, 1210, 1959, 1214, 1963] (by decide +kernel) (by decide +kernel)
set_option maxRecDepth 100000 in
theorem zl13_2 : inT (((lk_13.flatMap (lwd 13)).drop 100).take 50) := inT_of [1228, 1970, 1232, 1977, 1236, 1981, 1240, 1985, 1248, 1993, 1256, 1997, 1265, 2001, 1391, 2005] (by decide +kernel) (by decide +kernel)
theorem inT_cutzl13 {l : List Cond} (n : Nat) (h1 : inT (l.take n)) (h2 : inT (l.drop n)) : inT l := by
  rw [← List.take_append_drop n l]
  exact inT_app h1 h2
set_option maxRecDepth 100000 in
theorem zl13 : inT (lk_13.flatMap (lwd 13)) := by
  have e2 : inT ((lk_13.flatMap (lwd 13)).drop 100) := by
    have h := zl13_2
    rwa [List.take_of_length_le (Nat.le_of_ble_eq_true (by decide +kernel))] at h
  have e1 : inT ((lk_13.flatMap (lwd 13)).drop 50) := inT_cutzl13 50 zl13_1 (by rw [List.drop_drop]; exact e2)
  have e0 : inT ((lk_13.flatMap (lwd 13)).drop 0) := inT_cutzl13 50 zl13_0 (by rw [List.drop_drop]; exact e1)
  exact e0
set_option maxRecDepth 100000 in
theorem zl14 : inT (lk_14.flatMap (lwd 14)) := inT_of [1035, 1036, 1037] (by decide +kernel) (by decide +kernel)
set_option maxRecDepth 100000 in
theorem zl15 : inT (lk_15.flatMap (lwd 15)) := inT_of [] (by decide +kernel) (by decide +kernel)
set_option maxRecDepth 100000 in
theorem zc0 : inT (cwd 0) := inT_of [121, 88, 132, 134, 136, 138, 140, 142] (by decide +kernel) (by decide +kernel)
set_option maxRecDepth 100000 in
theorem zc1 : inT (cwd 1) := inT_of [148, 89, 157, 159, 161, 163] (by decide +kernel) (by decide +kernel)
set_option maxRecDepth 100000 in
theorem zc2 : inT (cwd 2) := inT_of [484, 102, 497, 499, 501, 503, 505, 507, 509, 511] (by decide +kernel) (by decide +kernel)
set_option maxRecDepth 100000 in
theorem zc3 : inT (cwd 3) := inT_of [742, 103, 757, 759, 761] (by decide +kernel) (by decide +kernel)
set_option maxRecDepth 100000 in
theorem zc4 : inT (cwd 4) := inT_of [940, 110, 950, 952, 954, 956, 958] (by decide +kernel) (by decide +kernel)
set_option maxRecDepth 100000 in
theorem zc5 : inT (cwd 5) := inT_of [304, 95, 311, 313] (by decide +kernel) (by decide +kernel)
set_option maxRecDepth 100000 in
theorem zc6 : inT (cwd 6) := inT_of [223, 92, 234, 236, 238, 240, 242, 244] (by decide +kernel) (by decide +kernel)
set_option maxRecDepth 100000 in
theorem zc7 : inT (cwd 7) := inT_of [248, 93, 257, 259, 261, 263] (by decide +kernel) (by decide +kernel)
set_option maxRecDepth 100000 in
theorem zc8 : inT (cwd 8) := inT_of [169, 90, 184, 186, 188, 190, 192, 194, 196, 198, 200, 202] (by decide +kernel) (by decide +kernel)
set_option maxRecDepth 100000 in
theorem zc9 : inT (cwd 9) := inT_of [210, 91, 217, 219] (by decide +kernel) (by decide +kernel)
set_option maxRecDepth 100000 in
theorem zc10 : inT (cwd 10) := inT_of [267, 94, 282, 284, 286, 288, 290, 292, 294, 296, 298, 300] (by decide +kernel) (by decide +kernel)
set_option maxRecDepth 100000 in
theorem zc11 : inT (cwd 11) := inT_of [113, 87, 336, 338, 340, 342, 344, 346, 348, 350, 352, 354, 356, 358, 360, 362, 364, 366, 368, 370, 372] (by decide +kernel) (by decide +kernel)
set_option maxRecDepth 100000 in
theorem zc12_0 : inT (((cwd 12).drop 0).take 50) := inT_of [1404, 96, 1463, 1465, 1467, 1469, 1471, 1473, 1475, 1477, 1479, 1481, 1483, 1485, 1487, 1489, 1491, 1493, 1495, 1497, 1499, 1501, 1503, 1505, 1507, 1509, 1511, 1513, 1515, 1517, 1519, 1521, 1523, 1525, 1527, 1529, 1531, 1533, 1535, 1537, 1539, 1541, 1543, 1545, 1547, 1549, 1551, 1553, 1555, 1557] (by decide +kernel) (by decide +kernel)
set_option maxRecDepth 100000 in
theorem zc12_1 : inT (((cwd 12).drop 50).take 50) := inT_of [1559, 1561, 1563, 1565, 1567, 1569] (by decide +kernel) (by decide +kernel)
theorem inT_cutzc12 {l : List Cond} (n : Nat) (h1 : inT (l.take n)) (h2 : inT (l.drop n)) : inT l := by
  rw [← List.take_append_drop n l]
  exact inT_app h1 h2
set_option maxRecDepth 100000 in
theorem zc12 : inT (cwd 12) := by
  have e1 : inT ((cwd 12).drop 50) := by
    have h := zc12_1
    rwa [List.take_of_length_le (Nat.le_of_ble_eq_true (by decide +kernel))] at h
  have e0 : inT ((cwd 12).drop 0) := inT_cutzc12 50 zc12_0 (by rw [List.drop_drop]; exact e1)
  exact e0
set_option maxRecDepth 100000 in
theorem zy0_0 : inT (((ych0.flatMap mwd).drop 0).take 50) := inT_of [124, 123, 88, 461, 459, 460, 88, 465, 463, 464, 88, 429, 428, 1, 88, 453, 451, 452, 88, 443, 442, 3, 88, 1353, 1351, 1352, 88, 434, 433, 2, 88, 425, 424, 0, 88, 416, 414, 415, 88, 1255, 1253, 1254, 88, 1263, 1261, 1262, 88, 151, 150, 89] (by decide +kernel) (by decide +kernel)
set_option maxRecDepth 100000 in
theorem zy0_1 : inT (((ych0.flatMap mwd).drop 50).take 50) := inT_of [388, 386, 387, 89, 473, 471, 472, 89, 392, 390, 391, 89] (by decide +kernel) (by decide +kernel)
theorem inT_cutzy0 {l : List Cond} (n : Nat) (h1 : inT (l.take n)) (h2 : inT (l.drop n)) : inT l := by
  rw [← List.take_append_drop n l]
  exact inT_app h1 h2
set_option maxRecDepth 100000 in
theorem zy0 : inT (ych0.flatMap mwd) := by
  have e1 : inT ((ych0.flatMap mwd).drop 50) := by
    have h := zy0_1
    rwa [List.take_of_length_le (Nat.le_of_ble_eq_true (by decide +kernel))] at h
  have e0 : inT ((ych0.flatMap mwd).drop 0) := inT_cutzy0 50 zy0_0 (by rw [List.drop_drop]; exact e1)
  exact e0
set_option maxRecDepth 100000 in
theorem zy1_0 : inT (((ych1.flatMap mwd).drop 0).take 50) := inT_of [1208, 1206, 1207, 89, 421, 419, 420, 89, 439, 437, 438, 89, 479, 477, 478, 89, 795, 793, 794, 89, 827, 825, 826, 89, 1139, 1137, 1138, 89, 487, 486, 102, 525, 523, 524, 102, 537, 535, 536, 102, 533, 531, 532, 102, 554, 552, 553, 102, 549, 547, 548] (by decide +kernel) (by decide +kernel)
set_option maxRecDepth 100000 in
theorem zy1_1 : inT (((ych1.flatMap mwd).drop 50).take 50) := inT_of [102, 1366, 1364, 1365, 102, 814, 812, 813, 102, 818, 816, 817, 102] (by decide +kernel) (by decide +kernel)
theorem inT_cutzy1 {l : List Cond} (n : Nat) (h1 : inT (l.take n)) (h2 : inT (l.drop n)) : inT l := by
  rw [← List.take_append_drop n l]
  exact inT_app h1 h2
set_option maxRecDepth 100000 in
theorem zy1 : inT (ych1.flatMap mwd) := by
  have e1 : inT ((ych1.flatMap mwd).drop 50) := by
    have h := zy1_1
    rwa [List.take_of_length_le (Nat.le_of_ble_eq_true (by decide +kernel))] at h
  have e0 : inT ((ych1.flatMap mwd).drop 0) := inT_cutzy1 50 zy1_0 (by rw [List.drop_drop]; exact e1)
  exact e0
set_option maxRecDepth 100000 in
theorem zy2_0 : inT (((ych2.flatMap mwd).drop 0).take 50) := inT_of [566, 564, 565, 102, 752, 751, 103, 634, 633, 103, 736, 735, 103, 804, 802, 803, 103, 809, 808, 22, 103, 823, 822, 103, 943, 942, 110, 976, 974, 975, 110, 972, 970, 971, 110, 1086, 1084, 1085, 110, 1151, 1149, 1150, 110, 1167, 1165, 1166, 110, 1159, 1157, 1158] (by decide +kernel) (by decide +kernel)
set_option maxRecDepth 100000 in
theorem zy2_1 : inT (((ych2.flatMap mwd).drop 50).take 50) := inT_of [110, 997, 995, 996, 110, 993, 991, 992, 110] (by decide +kernel) (by decide +kernel)
theorem inT_cutzy2 {l : List Cond} (n : Nat) (h1 : inT (l.take n)) (h2 : inT (l.drop n)) : inT l := by
  rw [← List.take_append_drop n l]
  exact inT_app h1 h2
set_option maxRecDepth 100000 in
theorem zy2 : inT (ych2.flatMap mwd) := by
  have e1 : inT ((ych2.flatMap mwd).drop 50) := by
    have h := zy2_1
    rwa [List.take_of_length_le (Nat.le_of_ble_eq_true (by decide +kernel))] at h
  have e0 : inT ((ych2.flatMap mwd).drop 0) := inT_cutzy2 50 zy2_0 (by rw [List.drop_drop]; exact e1)
  exact e0
set_option maxRecDepth 100000 in
theorem zy3_0 : inT (((ych3.flatMap mwd).drop 0).take 50) := inT_of [307, 306, 95, 562, 560, 561, 95, 570, 568, 569, 95, 888, 886, 887, 95, 891, 890, 95, 1276, 1274, 1275, 95, 1402, 1400, 1401, 95, 226, 225, 92, 791, 789, 790, 92, 832, 830, 831, 92, 836, 834, 835, 92, 848, 846, 847, 92, 852, 850, 851, 92, 988] (by decide +kernel) (by decide +kernel)
set_option maxRecDepth 100000 in
theorem zy3_1 : inT (((ych3.flatMap mwd).drop 50).take 50) := inT_of [986, 987, 92, 984, 982, 983, 92, 1001, 999, 1000, 92] (by decide +kernel) (by decide +kernel)
theorem inT_cutzy3 {l : List Cond} (n : Nat) (h1 : inT (l.take n)) (h2 : inT (l.drop n)) : inT l := by
  rw [← List.take_append_drop n l]
  exact inT_app h1 h2
set_option maxRecDepth 100000 in
theorem zy3 : inT (ych3.flatMap mwd) := by
  have e1 : inT ((ych3.flatMap mwd).drop 50) := by
    have h := zy3_1
    rwa [List.take_of_length_le (Nat.le_of_ble_eq_true (by decide +kernel))] at h
  have e0 : inT ((ych3.flatMap mwd).drop 0) := inT_cutzy3 50 zy3_0 (by rw [List.drop_drop]; exact e1)
  exact e0
set_option maxRecDepth 100000 in
theorem zy4_0 : inT (((ych4.flatMap mwd).drop 0).take 50) := inT_of [1386, 1384, 1385, 92, 1027, 1025, 1026, 92, 1023, 1022, 29, 92, 1019, 1018, 28, 92, 1015, 1013, 1014, 92, 1390, 1388, 1389, 92, 251, 250, 93, 844, 842, 843, 93, 856, 854, 855, 93, 864, 862, 863, 93, 868, 866, 867, 93, 872, 870, 871, 93, 876, 874, 875] (by decide +kernel) (by decide +kernel)
set_option maxRecDepth 100000 in
theorem zy4_1 : inT (((ych4.flatMap mwd).drop 50).take 50) := inT_of [93, 884, 882, 883, 93, 896, 894, 895, 93, 900, 898, 899, 93] (by decide +kernel) (by decide +kernel)
theorem inT_cutzy4 {l : List Cond} (n : Nat) (h1 : inT (l.take n)) (h2 : inT (l.drop n)) : inT l := by
  rw [← List.take_append_drop n l]
  exact inT_app h1 h2
set_option maxRecDepth 100000 in
theorem zy4 : inT (ych4.flatMap mwd) := by
  have e1 : inT ((ych4.flatMap mwd).drop 50) := by
    have h := zy4_1
    rwa [List.take_of_length_le (Nat.le_of_ble_eq_true (by decide +kernel))] at h
  have e0 : inT ((ych4.flatMap mwd).drop 0) := inT_cutzy4 50 zy4_0 (by rw [List.drop_drop]; exact e1)
  exact e0
set_option maxRecDepth 100000 in
theorem zy5_0 : inT (((ych5.flatMap mwd).drop 0).take 50) := inT_of [909, 907, 908, 93, 904, 902, 903, 93, 172, 171, 90, 599, 597, 598, 90, 595, 593, 594, 90, 607, 605, 606, 90, 615, 613, 614, 90, 746, 744, 745, 90, 619, 618, 8, 90, 623, 622, 9, 90, 725, 724, 13, 90, 631, 630, 11, 90, 729, 728, 14] (by decide +kernel) (by decide +kernel)
set_option maxRecDepth 100000 in
theorem zy5_1 : inT (((ych5.flatMap mwd).drop 50).take 50) := inT_of [90, 741, 740, 16, 90, 733, 732, 15, 90, 721, 720, 12, 90] (by decide +kernel) (by decide +kernel)
theorem inT_cutzy5 {l : List Cond} (n : Nat) (h1 : inT (l.take n)) (h2 : inT (l.drop n)) : inT l := by
  rw [← List.take_append_drop n l]
  exact inT_app h1 h2
set_option maxRecDepth 100000 in
theorem zy5 : inT (ych5.flatMap mwd) := by
  have e1 : inT ((ych5.flatMap mwd).drop 50) := by
    have h := zy5_1
    rwa [List.take_of_length_le (Nat.le_of_ble_eq_true (by decide +kernel))] at h
  have e0 : inT ((ych5.flatMap mwd).drop 0) := inT_cutzy5 50 zy5_0 (by rw [List.drop_drop]; exact e1)
  exact e0
set_option maxRecDepth 100000 in
theorem zy6_0 : inT (((ych6.flatMap mwd).drop 0).take 50) := inT_of [627, 626, 10, 90, 213, 212, 91, 1272, 1270, 1271, 91, 1195, 1193, 1194, 91, 1183, 1181, 1182, 91, 1191, 1189, 1190, 91, 270, 269, 94, 1069, 1067, 1068, 94, 1103, 1101, 1102, 94, 1127, 1125, 1126, 94, 1077, 1075, 1076, 94, 1081, 1079, 1080, 94, 1094, 1092, 1093, 94] (by decide +kernel) (by decide +kernel)
set_option maxRecDepth 100000 in
theorem zy6_1 : inT (((ych6.flatMap mwd).drop 50).take 50) := inT_of [1090, 1088, 1089, 94, 1121, 1119, 1120, 94, 1098, 1096, 1097, 94] (by decide +kernel) (by decide +kernel)
theorem inT_cutzy6 {l : List Cond} (n : Nat) (h1 : inT (l.take n)) (h2 : inT (l.drop n)) : inT l := by
  rw [← List.take_append_drop n l]
  exact inT_app h1 h2
set_option maxRecDepth 100000 in
theorem zy6 : inT (ych6.flatMap mwd) := by
  have e1 : inT ((ych6.flatMap mwd).drop 50) := by
    have h := zy6_1
    rwa [List.take_of_length_le (Nat.le_of_ble_eq_true (by decide +kernel))] at h
  have e0 : inT ((ych6.flatMap mwd).drop 0) := inT_cutzy6 50 zy6_0 (by rw [List.drop_drop]; exact e1)
  exact e0
set_option maxRecDepth 100000 in
theorem zy7_0 : inT (((ych7.flatMap mwd).drop 0).take 50) := inT_of [1113, 1111, 1112, 94, 1175, 1173, 1174, 94, 1107, 1105, 1106, 94, 116, 115, 87, 378, 376, 377, 87, 396, 394, 395, 87, 412, 410, 411, 87, 449, 447, 448, 87, 1284, 1282, 1283, 87, 457, 455, 456, 87, 469, 467, 468, 87, 483, 481, 482, 87, 517, 515, 516] (by decide +kernel) (by decide +kernel)
set_option maxRecDepth 100000 in
theorem zy7_1 : inT (((ych7.flatMap mwd).drop 50).take 50) := inT_of [87, 529, 527, 528, 87, 1360, 1358, 1359, 87, 541, 539, 540, 87] (by decide +kernel) (by decide +kernel)
theorem inT_cutzy7 {l : List Cond} (n : Nat) (h1 : inT (l.take n)) (h2 : inT (l.drop n)) : inT l := by
  rw [← List.take_append_drop n l]
  exact inT_app h1 h2
set_option maxRecDepth 100000 in
theorem zy7 : inT (ych7.flatMap mwd) := by
  have e1 : inT ((ych7.flatMap mwd).drop 50) := by
    have h := zy7_1
    rwa [List.take_of_length_le (Nat.le_of_ble_eq_true (by decide +kernel))] at h
  have e0 : inT ((ych7.flatMap mwd).drop 0) := inT_cutzy7 50 zy7_0 (by rw [List.drop_drop]; exact e1)
  exact e0
set_option maxRecDepth 100000 in
theorem zy8_0 : inT (((ych8.flatMap mwd).drop 0).take 50) := inT_of [574, 572, 573, 87, 583, 581, 582, 87, 591, 589, 590, 87, 603, 601, 602, 87, 611, 609, 610, 87, 1373, 1371, 1372, 87, 768, 766, 767, 87, 880, 878, 879, 87, 915, 913, 914, 87, 922, 920, 921, 87, 926, 924, 925, 87, 935, 933, 934, 87, 939, 937] (by decide +kernel) (by decide +kernel)
set_option maxRecDepth 100000 in
theorem zy8_1 : inT (((ych8.flatMap mwd).drop 50).take 50) := inT_of [938, 87, 964, 962, 963, 87, 980, 978, 979, 87, 1007, 1005, 1006, 87] (by decide +kernel) (by decide +kernel)
theorem inT_cutzy8 {l : List Cond} (n : Nat) (h1 : inT (l.take n)) (h2 : inT (l.drop n)) : inT l := by
  rw [← List.take_append_drop n l]
  exact inT_app h1 h2
set_option maxRecDepth 100000 in
theorem zy8 : inT (ych8.flatMap mwd) := by
  have e1 : inT ((ych8.flatMap mwd).drop 50) := by
    have h := zy8_1
    rwa [List.take_of_length_le (Nat.le_of_ble_eq_true (by decide +kernel))] at h
  have e0 : inT ((ych8.flatMap mwd).drop 0) := inT_cutzy8 50 zy8_0 (by rw [List.drop_drop]; exact e1)
  exact e0
set_option maxRecDepth 100000 in
theorem zy9_0 : inT (((ych9.flatMap mwd).drop 0).take 50) := inT_of [1031, 1029, 1030, 87, 1381, 1379, 1380, 87, 1041, 1039, 1040, 87, 1057, 1055, 1056, 87, 1117, 1115, 1116, 87, 1131, 1129, 1130, 87, 1135, 1133, 1134, 87, 1143, 1141, 1142, 87, 1147, 1145, 1146, 87, 1155, 1153, 1154, 87, 1163, 1161, 1162, 87, 1171, 1169, 1170, 87, 1179, 1177] (by decide +kernel) (by decide +kernel)
set_option maxRecDepth 100000 in
theorem zy9_1 : inT (((ych9.flatMap mwd).drop 50).take 50) := inT_of [1178, 87, 1187, 1185, 1186, 87, 1200, 1198, 1199, 87, 1213, 1211, 1212, 87] (by decide +kernel) (by decide +kernel)
theorem inT_cutzy9 {l : List Cond} (n : Nat) (h1 : inT (l.take n)) (h2 : inT (l.drop n)) : inT l := by
  rw [← List.take_append_drop n l]
  exact inT_app h1 h2
set_option maxRecDepth 100000 in
theorem zy9 : inT (ych9.flatMap mwd) := by
  have e1 : inT ((ych9.flatMap mwd).drop 50) := by
    have h := zy9_1
    rwa [List.take_of_length_le (Nat.le_of_ble_eq_true (by decide +kernel))] at h
  have e0 : inT ((ych9.flatMap mwd).drop 0) := inT_cutzy9 50 zy9_0 (by rw [List.drop_drop]; exact e1)
  exact e0
set_option maxRecDepth 100000 in
theorem zy10_0 : inT (((ych10.flatMap mwd).drop 0).take 50) := inT_of [1217, 1215, 1216, 87, 1231, 1229, 1230, 87, 1235, 1233, 1234, 87, 1239, 1237, 1238, 87, 1243, 1241, 1242, 87, 1251, 1249, 1250, 87, 1259, 1257, 1258, 87, 1268, 1266, 1267, 87, 1397, 1395, 1396, 87, 384, 383, 87, 381, 380, 87, 779, 778, 87, 402, 401, 87, 399, 398] (by decide +kernel) (by decide +kernel)
set_option maxRecDepth 100000 in
theorem zy10_1 : inT (((ych10.flatMap mwd).drop 50).take 50) := inT_of [87, 521, 520, 4, 87, 776, 775, 18, 87] (by decide +kernel) (by decide +kernel)
theorem inT_cutzy10 {l : List Cond} (n : Nat) (h1 : inT (l.take n)) (h2 : inT (l.drop n)) : inT l := by
  rw [← List.take_append_drop n l]
  exact inT_app h1 h2
set_option maxRecDepth 100000 in
theorem zy10 : inT (ych10.flatMap mwd) := by
  have e1 : inT ((ych10.flatMap mwd).drop 50) := by
    have h := zy10_1
    rwa [List.take_of_length_le (Nat.le_of_ble_eq_true (by decide +kernel))] at h
  have e0 : inT ((ych10.flatMap mwd).drop 0) := inT_cutzy10 50 zy10_0 (by rw [List.drop_drop]; exact e1)
  exact e0
set_option maxRecDepth 100000 in
theorem zy11_0 : inT (((ych11.flatMap mwd).drop 0).take 50) := inT_of [968, 967, 26, 87, 1011, 1010, 27, 87, 772, 771, 17, 87, 1061, 1060, 32, 87, 545, 544, 5, 87, 578, 577, 6, 87, 587, 586, 7, 87, 787, 786, 20, 87, 800, 799, 21, 87, 783, 782, 19, 87, 840, 839, 23, 87, 930, 929, 25, 87, 860, 859] (by decide +kernel) (by decide +kernel)
set_option maxRecDepth 100000 in
theorem zy11_1 : inT (((ych11.flatMap mwd).drop 50).take 50) := inT_of [24, 87, 918, 917, 87, 1047, 1046, 30, 87, 1053, 1052, 31, 87] (by decide +kernel) (by decide +kernel)
theorem inT_cutzy11 {l : List Cond} (n : Nat) (h1 : inT (l.take n)) (h2 : inT (l.drop n)) : inT l := by
  rw [← List.take_append_drop n l]
  exact inT_app h1 h2
set_option maxRecDepth 100000 in
theorem zy11 : inT (ych11.flatMap mwd) := by
  have e1 : inT ((ych11.flatMap mwd).drop 50) := by
    have h := zy11_1
    rwa [List.take_of_length_le (Nat.le_of_ble_eq_true (by decide +kernel))] at h
  have e0 : inT ((ych11.flatMap mwd).drop 0) := inT_cutzy11 50 zy11_0 (by rw [List.drop_drop]; exact e1)
  exact e0
set_option maxRecDepth 100000 in
theorem zy12_0 : inT (((ych12.flatMap mwd).drop 0).take 50) := inT_of [1065, 1064, 33, 87, 1073, 1072, 34, 87, 1204, 1203, 35, 87, 1221, 1220, 87, 1227, 1226, 87, 1224, 1223, 87, 1247, 1246, 36, 87, 1407, 1406, 96, 1575, 1573, 1574, 96, 1585, 1584, 96, 1620, 1619, 41, 96, 1685, 1684, 50, 96, 1795, 1794, 96, 1792, 1791, 68, 96] (by decide +kernel) (by decide +kernel)
set_option maxRecDepth 100000 in
theorem zy12_1 : inT (((ych12.flatMap mwd).drop 50).take 50) := inT_of [1632, 1631, 42, 96, 1582, 1581, 96] (by decide +kernel) (by decide +kernel)
theorem inT_cutzy12 {l : List Cond} (n : Nat) (h1 : inT (l.take n)) (h2 : inT (l.drop n)) : inT l := by
  rw [← List.take_append_drop n l]
  exact inT_app h1 h2
set_option maxRecDepth 100000 in
theorem zy12 : inT (ych12.flatMap mwd) := by
  have e1 : inT ((ych12.flatMap mwd).drop 50) := by
    have h := zy12_1
    rwa [List.take_of_length_le (Nat.le_of_ble_eq_true (by decide +kernel))] at h
  have e0 : inT ((ych12.flatMap mwd).drop 0) := inT_cutzy12 50 zy12_0 (by rw [List.drop_drop]; exact e1)
  exact e0
set_option maxRecDepth 100000 in
theorem zy13_0 : inT (((ych13.flatMap mwd).drop 0).take 50) := inT_of [1644, 1643, 43, 96, 1761, 1760, 63, 96, 1830, 1829, 70, 96, 1589, 1588, 38, 96, 1579, 1577, 1578, 96, 1593, 1591, 1592, 96, 1607, 1606, 40, 96, 1603, 1602, 39, 96, 1599, 1597, 1598, 96, 1612, 1610, 1611, 96, 1616, 1614, 1615, 96, 1624, 1622, 1623, 96, 1628, 1626] (by decide +kernel) (by decide +kernel)
set_option maxRecDepth 100000 in
theorem zy13_1 : inT (((ych13.flatMap mwd).drop 50).take 50) := inT_of [1627, 96, 1636, 1634, 1635, 96, 1640, 1638, 1639, 96, 1648, 1646, 1647, 96] (by decide +kernel) (by decide +kernel)
theorem inT_cutzy13 {l : List Cond} (n : Nat) (h1 : inT (l.take n)) (h2 : inT (l.drop n)) : inT l := by
  rw [← List.take_append_drop n l]
  exact inT_app h1 h2
set_option maxRecDepth 100000 in
theorem zy13 : inT (ych13.flatMap mwd) := by
  have e1 : inT ((ych13.flatMap mwd).drop 50) := by
    have h := zy13_1
    rwa [List.take_of_length_le (Nat.le_of_ble_eq_true (by decide +kernel))] at h
  have e0 : inT ((ych13.flatMap mwd).drop 0) := inT_cutzy13 50 zy13_0 (by rw [List.drop_drop]; exact e1)
  exact e0
set_option maxRecDepth 100000 in
theorem zy14_0 : inT (((ych14.flatMap mwd).drop 0).take 50) := inT_of [1656, 1655, 44, 96, 1660, 1659, 45, 96, 1665, 1664, 46, 96, 1669, 1668, 47, 96, 1677, 1676, 48, 96, 1652, 1650, 1651, 96, 1681, 1680, 49, 96, 1673, 1671, 1672, 96, 1689, 1687, 1688, 96, 1697, 1696, 51, 96, 1693, 1691, 1692, 96, 1701, 1699, 1700, 96, 1705, 1703] (by decide +kernel) (by decide +kernel)
set_option maxRecDepth 100000 in
theorem zy14_1 : inT (((ych14.flatMap mwd).drop 50).take 50) := inT_of [1704, 96, 1737, 1736, 58, 96, 1733, 1732, 57, 96, 1745, 1744, 60, 96] (by decide +kernel) (by decide +kernel)
theorem inT_cutzy14 {l : List Cond} (n : Nat) (h1 : inT (l.take n)) (h2 : inT (l.drop n)) : inT l := by
  rw [← List.take_append_drop n l]
  exact inT_app h1 h2
set_option maxRecDepth 100000 in
theorem zy14 : inT (ych14.flatMap mwd) := by
  have e1 : inT ((ych14.flatMap mwd).drop 50) := by
    have h := zy14_1
    rwa [List.take_of_length_le (Nat.le_of_ble_eq_true (by decide +kernel))] at h
  have e0 : inT ((ych14.flatMap mwd).drop 0) := inT_cutzy14 50 zy14_0 (by rw [List.drop_drop]; exact e1)
  exact e0
set_option maxRecDepth 100000 in
theorem zy15_0 : inT (((ych15.flatMap mwd).drop 0).take 50) := inT_of [1741, 1740, 59, 96, 1713, 1712, 52, 96, 1717, 1716, 53, 96, 1721, 1720, 54, 96, 1725, 1724, 55, 96, 1729, 1728, 56, 96, 1753, 1752, 62, 96, 1749, 1748, 61, 96, 1709, 1707, 1708, 96, 1765, 1764, 64, 96, 1757, 1755, 1756, 96, 1772, 1771, 96, 1776, 1775, 65] (by decide +kernel) (by decide +kernel)
set_option maxRecDepth 100000 in
theorem zy15_1 : inT (((ych15.flatMap mwd).drop 50).take 50) := inT_of [96, 1780, 1779, 66, 96, 1769, 1767, 1768, 96, 1788, 1787, 67, 96] (by decide +kernel) (by decide +kernel)
theorem inT_cutzy15 {l : List Cond} (n : Nat) (h1 : inT (l.take n)) (h2 : inT (l.drop n)) : inT l := by
  rw [← List.take_append_drop n l]
  exact inT_app h1 h2
set_option maxRecDepth 100000 in
theorem zy15 : inT (ych15.flatMap mwd) := by
  have e1 : inT ((ych15.flatMap mwd).drop 50) := by
    have h := zy15_1
    rwa [List.take_of_length_le (Nat.le_of_ble_eq_true (by decide +kernel))] at h
  have e0 : inT ((ych15.flatMap mwd).drop 0) := inT_cutzy15 50 zy15_0 (by rw [List.drop_drop]; exact e1)
  exact e0
set_option maxRecDepth 100000 in
theorem zy16_0 : inT (((ych16.flatMap mwd).drop 0).take 50) := inT_of [1799, 1798, 69, 96, 1784, 1782, 1783, 96, 1806, 1805, 96, 1803, 1801, 1802, 96, 1810, 1808, 1809, 96, 1814, 1812, 1813, 96, 1818, 1816, 1817, 96, 1822, 1820, 1821, 96, 1826, 1824, 1825, 96, 1846, 1845, 73, 96, 1842, 1841, 72, 96, 1838, 1837, 71, 96, 1834, 1832, 1833] (by decide +kernel) (by decide +kernel)
set_option maxRecDepth 100000 in
theorem zy16_1 : inT (((ych16.flatMap mwd).drop 50).take 50) := inT_of [96, 1866, 1865, 77, 96, 1862, 1861, 76, 96, 1858, 1857, 75, 96] (by decide +kernel) (by decide +kernel)
theorem inT_cutzy16 {l : List Cond} (n : Nat) (h1 : inT (l.take n)) (h2 : inT (l.drop n)) : inT l := by
  rw [← List.take_append_drop n l]
  exact inT_app h1 h2
set_option maxRecDepth 100000 in
theorem zy16 : inT (ych16.flatMap mwd) := by
  have e1 : inT ((ych16.flatMap mwd).drop 50) := by
    have h := zy16_1
    rwa [List.take_of_length_le (Nat.le_of_ble_eq_true (by decide +kernel))] at h
  have e0 : inT ((ych16.flatMap mwd).drop 0) := inT_cutzy16 50 zy16_0 (by rw [List.drop_drop]; exact e1)
  exact e0
set_option maxRecDepth 100000 in
theorem zy17_0 : inT (((ych17.flatMap mwd).drop 0).take 50) := inT_of [1854, 1853, 74, 96, 1850, 1848, 1849, 96, 1870, 1868, 1869, 96, 1875, 1873, 1874, 96, 1883, 1882, 78, 96, 1879, 1877, 1878, 96, 1903, 1902, 82, 96, 1899, 1898, 81, 96, 1895, 1894, 80, 96, 1891, 1890, 79, 96, 1887, 1885, 1886, 96, 1911, 1910, 83, 96, 1907, 1905] (by decide +kernel) (by decide +kernel)
set_option maxRecDepth 100000 in
theorem zy17_1 : inT (((ych17.flatMap mwd).drop 50).take 50) := inT_of [1906, 96, 1915, 1913, 1914, 96, 1923, 1922, 84, 96, 1919, 1917, 1918, 96] (by decide +kernel) (by decide +kernel)
theorem inT_cutzy17 {l : List Cond} (n : Nat) (h1 : inT (l.take n)) (h2 : inT (l.drop n)) : inT l := by
  rw [← List.take_append_drop n l]
  exact inT_app h1 h2
set_option maxRecDepth 100000 in
theorem zy17 : inT (ych17.flatMap mwd) := by
  have e1 : inT ((ych17.flatMap mwd).drop 50) := by
    have h := zy17_1
    rwa [List.take_of_length_le (Nat.le_of_ble_eq_true (by decide +kernel))] at h
  have e0 : inT ((ych17.flatMap mwd).drop 0) := inT_cutzy17 50 zy17_0 (by rw [List.drop_drop]; exact e1)
  exact e0
set_option maxRecDepth 100000 in
theorem zy18_0 : inT (((ych18.flatMap mwd).drop 0).take 50) := inT_of [1927, 1925, 1926, 96, 1931, 1929, 1930, 96, 1935, 1933, 1934, 96, 1939, 1937, 1938, 96, 1943, 1941, 1942, 96, 1950, 1949, 96, 1947, 1945, 1946, 96, 1954, 1952, 1953, 96, 1958, 1956, 1957, 96, 1962, 1960, 1961, 96, 1969, 1968, 96, 1966, 1964, 1965, 96, 1976, 1975, 96, 1973] (by decide +kernel) (by decide +kernel)
set_option maxRecDepth 100000 in
theorem zy18_1 : inT (((ych18.flatMap mwd).drop 50).take 50) := inT_of [1971, 1972, 96, 1980, 1978, 1979, 96, 1984, 1982, 1983, 96] (by decide +kernel) (by decide +kernel)
theorem inT_cutzy18 {l : List Cond} (n : Nat) (h1 : inT (l.take n)) (h2 : inT (l.drop n)) : inT l := by
  rw [← List.take_append_drop n l]
  exact inT_app h1 h2
set_option maxRecDepth 100000 in
theorem zy18 : inT (ych18.flatMap mwd) := by
  have e1 : inT ((ych18.flatMap mwd).drop 50) := by
    have h := zy18_1
    rwa [List.take_of_length_le (Nat.le_of_ble_eq_true (by decide +kernel))] at h
  have e0 : inT ((ych18.flatMap mwd).drop 0) := inT_cutzy18 50 zy18_0 (by rw [List.drop_drop]; exact e1)
  exact e0
set_option maxRecDepth 100000 in
theorem zy19_0 : inT (((ych19.flatMap mwd).drop 0).take 50) := inT_of [1992, 1991, 85, 96, 1988, 1986, 1987, 96, 1996, 1994, 1995, 96, 2000, 1998, 1999, 96, 2004, 2002, 2003, 96, 2008, 2006, 2007, 96, 1034, 1033, 111, 558, 557, 97, 408, 407, 97, 405, 404, 97, 1279, 1278, 86, 1356, 1355, 86, 1369, 1368, 86, 1377, 1376, 86, 1393, 1392] (by decide +kernel) (by decide +kernel)
set_option maxRecDepth 100000 in
theorem zy19_1 : inT (((ych19.flatMap mwd).drop 50).take 50) := inT_of [86] (by decide +kernel) (by decide +kernel)
theorem inT_cutzy19 {l : List Cond} (n : Nat) (h1 : inT (l.take n)) (h2 : inT (l.drop n)) : inT l := by
  rw [← List.take_append_drop n l]
  exact inT_app h1 h2
set_option maxRecDepth 100000 in
theorem zy19 : inT (ych19.flatMap mwd) := by
  have e1 : inT ((ych19.flatMap mwd).drop 50) := by
    have h := zy19_1
    rwa [List.take_of_length_le (Nat.le_of_ble_eq_true (by decide +kernel))] at h
  have e0 : inT ((ych19.flatMap mwd).drop 0) := inT_cutzy19 50 zy19_0 (by rw [List.drop_drop]; exact e1)
  exact e0
set_option maxRecDepth 100000 in
theorem zx : inT (xwds) := inT_of [118, 119, 749, 748, 109, 145, 146, 764, 316] (by decide +kernel) (by decide +kernel)
theorem inT_fm {α : Type} {l1 l2 : List α} {f : α → List Cond} (h1 : inT (l1.flatMap f)) (h2 : inT (l2.flatMap f)) : inT ((l1 ++ l2).flatMap f) := by rw [List.flatMap_append]; exact inT_app h1 h2
theorem in_lwds : inT lwds := inT_app zl0 (inT_app zl1 (inT_app zl2 (inT_app zl3 (inT_app zl4 (inT_app zl5 (inT_app zl6 (inT_app zl7 (inT_app zl8 (inT_app zl9 (inT_app zl10 (inT_app zl11 (inT_app zl12 (inT_app zl13 (inT_app zl14 (zl15)))))))))))))))
theorem in_cwds : inT cwds := by
  intro w hw
  obtain ⟨c, hc, hw⟩ := List.mem_flatMap.mp hw
  have hc := List.mem_range.mp hc
  rcases (show c = 0 ∨ c = 1 ∨ c = 2 ∨ c = 3 ∨ c = 4 ∨ c = 5 ∨ c = 6 ∨ c = 7 ∨ c = 8 ∨ c = 9 ∨ c = 10 ∨ c = 11 ∨ c = 12 by omega) with rfl | rfl | rfl | rfl | rfl | rfl | rfl | rfl | rfl | rfl | rfl | rfl | rfl
  · exact zc0 w hw
  · exact zc1 w hw
  · exact zc2 w hw
  · exact zc3 w hw
  · exact zc4 w hw
  · exact zc5 w hw
  · exact zc6 w hw
  · exact zc7 w hw
  · exact zc8 w hw
  · exact zc9 w hw
  · exact zc10 w hw
  · exact zc11 w hw
  · exact zc12 w hw
theorem in_mwds : inT mwds := inT_fm zy0 (inT_fm zy1 (inT_fm zy2 (inT_fm zy3 (inT_fm zy4 (inT_fm zy5 (inT_fm zy6 (inT_fm zy7 (inT_fm zy8 (inT_fm zy9 (inT_fm zy10 (inT_fm zy11 (inT_fm zy12 (inT_fm zy13 (inT_fm zy14 (inT_fm zy15 (inT_fm zy16 (inT_fm zy17 (inT_fm zy18 (zy19)))))))))))))))))))
theorem in_big : inT big := inT_app in_lwds (inT_app in_cwds (inT_app in_mwds zx))
theorem big_tbl : ∀ w ∈ big, w ∈ lw_tbl := fun w h => (in_big w h).1
theorem big_good : ∀ w ∈ big, goodWord w = true := fun w h => (in_big w h).2
