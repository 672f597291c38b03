set_option maxRecDepth 20000 in
theorem in_wsL_law_r1 : GoodIn lw_tbl wsL_law_r1 := goodIn_r _ [121, 122, 100, 1201, 1202, 114, 123, 124, 125, 126, 127, 128, 170, 622, 623, 129, 130, 101, 624, 625, 238, 239, 103, 626] (by decide +kernel) (by decide +kernel)
set_option maxRecDepth 20000 in
theorem in_wsL_law_r2 : GoodIn lw_tbl wsL_law_r2 := goodIn_r _ [302, 303, 105, 627, 348, 349, 106, 628, 367, 368, 107, 629, 417, 418, 108, 630, 447, 448, 109, 631, 478, 479, 110, 632] (by decide +kernel) (by decide +kernel)
set_option maxRecDepth 20000 in
theorem in_wsL_law_r3 : GoodIn lw_tbl wsL_law_r3 := goodIn_r _ [511, 512, 111, 633, 132, 133, 134, 173, 176, 179, 183, 186, 171, 190, 192, 172, 195, 198, 200, 202, 204, 135, 136, 102] (by decide +kernel) (by decide +kernel)
set_option maxRecDepth 20000 in
theorem in_wsL_law_r4 : GoodIn lw_tbl wsL_law_r4 := goodIn_r _ [207, 138, 139, 140, 141, 146, 148, 150, 152, 153, 154, 240, 241, 242, 243, 269, 271, 275, 276, 277, 278, 279, 280, 244] (by decide +kernel) (by decide +kernel)
set_option maxRecDepth 20000 in
theorem in_wsL_law_r5 : GoodIn lw_tbl wsL_law_r5 := goodIn_r _ [245, 104, 273, 274, 246, 247, 248, 249, 250, 252, 254, 257, 256, 305, 306, 307, 308, 312, 313, 314, 315, 316, 317, 318] (by decide +kernel) (by decide +kernel)
set_option maxRecDepth 20000 in
theorem in_wsL_law_r6 : GoodIn lw_tbl wsL_law_r6 := goodIn_r _ [319, 320, 321, 322, 350, 351, 352, 353, 354, 358, 359, 357, 369, 370, 371, 372, 375, 379, 381, 385, 389, 393, 373, 396] (by decide +kernel) (by decide +kernel)
set_option maxRecDepth 20000 in
theorem in_wsL_law_r7 : GoodIn lw_tbl wsL_law_r7 := goodIn_r _ [397, 395, 419, 420, 421, 422, 423, 427, 428, 429, 430, 431, 425, 426, 450, 451, 452, 453, 455, 457, 459, 460, 461, 462] (by decide +kernel) (by decide +kernel)
set_option maxRecDepth 20000 in
theorem in_wsL_law_r8 : GoodIn lw_tbl wsL_law_r8 := goodIn_r _ [481, 482, 483, 484, 486, 488, 489, 490, 491, 492, 493, 513, 514, 515, 516, 519, 521, 523, 525, 517, 530, 531, 532, 527] (by decide +kernel) (by decide +kernel)
set_option maxRecDepth 20000 in
theorem in_wsL_law_r9 : GoodIn lw_tbl wsL_law_r9 := goodIn_r _ [528, 529, 554, 556, 0, 557, 209, 485, 558, 559, 560, 561, 174, 177, 208, 147, 151, 149, 180, 193, 196, 562, 563, 112] (by decide +kernel) (by decide +kernel)
set_option maxRecDepth 20000 in
theorem in_wsL_law_r10 : GoodIn lw_tbl wsL_law_r10 := goodIn_r _ [564, 565, 567, 1, 568, 203, 201, 199, 569, 571, 2, 572, 573, 575, 3, 576, 577, 579, 4, 580, 581, 583, 5, 584] (by decide +kernel) (by decide +kernel)
set_option maxRecDepth 20000 in
theorem in_wsL_law_r11 : GoodIn lw_tbl wsL_law_r11 := goodIn_r _ [585, 587, 6, 588, 589, 590, 591, 592, 593, 594, 595, 596, 597, 598, 599, 600, 601, 187, 205, 606, 602, 604, 7, 605] (by decide +kernel) (by decide +kernel)
set_option maxRecDepth 20000 in
theorem in_wsL_law_r12 : GoodIn lw_tbl wsL_law_r12 := goodIn_r _ [607, 609, 8, 610, 611, 613, 9, 614, 619, 621, 620, 113, 615, 617, 10, 618, 1203, 1204, 1205, 1206, 1231, 1232, 1233, 1237] (by decide +kernel) (by decide +kernel)
set_option maxRecDepth 20000 in
theorem in_wsL_law_r13 : GoodIn lw_tbl wsL_law_r13 := goodIn_r _ [1243, 1244, 1245, 1246, 1247, 1248, 1249, 1250, 1251, 1252, 1253, 1254, 1255, 1397, 1256, 1261, 1262, 1264, 1265, 1266, 1267, 1271, 1272, 1273] (by decide +kernel) (by decide +kernel)
set_option maxRecDepth 20000 in
theorem in_wsL_law_r14 : GoodIn lw_tbl wsL_law_r14 := goodIn_r _ [1274, 1275, 1276, 1277, 1280, 1281, 1282, 1283, 1284, 1285, 1207, 1209, 50, 1210, 1258, 1211, 1213, 51, 1214, 1215, 1217, 52, 1218, 1219] (by decide +kernel) (by decide +kernel)
set_option maxRecDepth 20000 in
theorem in_wsL_law_r15 : GoodIn lw_tbl wsL_law_r15 := goodIn_r _ [1221, 53, 1222, 1257, 1268, 1269, 1223, 1225, 54, 1226, 1227, 1229, 55, 1230, 659, 660, 661, 662, 663, 665, 11, 666, 1712, 1713] (by decide +kernel) (by decide +kernel)
set_option maxRecDepth 20000 in
theorem in_wsL_law_r16 : GoodIn lw_tbl wsL_law_r16 := goodIn_r _ [1714, 1715, 1234, 667, 668, 669, 670, 1716, 1717, 1718, 1719, 671, 672, 673, 674, 184, 675, 676, 677, 678, 679, 680, 681, 682] (by decide +kernel) (by decide +kernel)
set_option maxRecDepth 20000 in
theorem in_wsL_law_r17 : GoodIn lw_tbl wsL_law_r17 := goodIn_r _ [683, 684, 685, 686, 687, 688, 689, 690, 691, 692, 115, 693, 694, 696, 12, 697, 698, 700, 13, 701, 702, 704, 14, 705] (by decide +kernel) (by decide +kernel)
set_option maxRecDepth 20000 in
theorem in_wsL_law_r18 : GoodIn lw_tbl wsL_law_r18 := goodIn_r _ [706, 708, 15, 709, 710, 712, 16, 713, 714, 716, 17, 717, 719, 721, 18, 722, 723, 724, 725, 116, 726, 1720, 727, 728] (by decide +kernel) (by decide +kernel)
set_option maxRecDepth 20000 in
theorem in_wsL_law_r19 : GoodIn lw_tbl wsL_law_r19 := goodIn_r _ [729, 730, 731, 1721, 733, 734, 735, 736, 737, 738, 739, 740, 741, 742, 117, 743, 744, 745, 746, 747, 749, 750, 118, 751] (by decide +kernel) (by decide +kernel)
set_option maxRecDepth 20000 in
theorem in_wsL_law_r20 : GoodIn lw_tbl wsL_law_r20 := goodIn_r _ [752, 753, 119, 754, 755, 756, 757, 758, 759, 760, 761, 762, 763, 764, 765, 767, 769, 772, 774, 19, 775, 779, 781, 20] (by decide +kernel) (by decide +kernel)
set_option maxRecDepth 20000 in
theorem in_wsL_law_r21 : GoodIn lw_tbl wsL_law_r21 := goodIn_r _ [782, 789, 791, 21, 792, 251, 253, 255, 793, 795, 22, 796, 175, 181, 185, 188, 797, 799, 23, 800, 178, 801, 803, 24] (by decide +kernel) (by decide +kernel)
set_option maxRecDepth 20000 in
theorem in_wsL_law_r22 : GoodIn lw_tbl wsL_law_r22 := goodIn_r _ [804, 805, 807, 25, 808, 809, 811, 26, 812, 813, 815, 27, 816, 817, 818, 819, 820, 821, 823, 28, 824, 825, 827, 29] (by decide +kernel) (by decide +kernel)
set_option maxRecDepth 20000 in
theorem in_wsL_law_r23 : GoodIn lw_tbl wsL_law_r23 := goodIn_r _ [828, 829, 831, 30, 832, 833, 834, 835, 836, 837, 838, 839, 840, 841, 843, 31, 844, 194, 197, 845, 846, 847, 848, 849] (by decide +kernel) (by decide +kernel)
set_option maxRecDepth 20000 in
theorem in_wsL_law_r24 : GoodIn lw_tbl wsL_law_r24 := goodIn_r _ [851, 32, 852, 210, 191, 853, 854, 855, 856, 857, 858, 859, 860, 861, 863, 33, 864, 206, 1398, 1399, 1400, 1401, 1236, 1235] (by decide +kernel) (by decide +kernel)
set_option maxRecDepth 20000 in
theorem in_wsL_law_r25 : GoodIn lw_tbl wsL_law_r25 := goodIn_r _ [1239, 1240, 1278, 1402, 1404, 56, 1405, 1238, 1242, 1241, 1406, 1408, 57, 1409, 1410, 1411, 1412, 1413, 1414, 1415, 1416, 1417, 1418, 1419] (by decide +kernel) (by decide +kernel)
set_option maxRecDepth 20000 in
theorem in_wsL_law_r26 : GoodIn lw_tbl wsL_law_r26 := goodIn_r _ [1420, 1421, 1422, 1423, 1424, 1425, 1426, 1427, 1428, 1429, 1430, 1432, 58, 1433, 1434, 1436, 59, 1437, 1438, 1440, 60, 1441, 1442, 1444] (by decide +kernel) (by decide +kernel)
set_option maxRecDepth 20000 in
theorem in_wsL_law_r27 : GoodIn lw_tbl wsL_law_r27 := goodIn_r _ [61, 1445, 1446, 1448, 62, 1449, 1450, 1452, 63, 1453, 1454, 1456, 64, 1457, 1458, 1460, 65, 1461, 1462, 1464, 66, 1465, 1466, 1468] (by decide +kernel) (by decide +kernel)
set_option maxRecDepth 20000 in
theorem in_wsL_law_r28 : GoodIn lw_tbl wsL_law_r28 := goodIn_r _ [67, 1469, 1470, 1472, 68, 1473, 1474, 1476, 69, 1477, 1478, 1480, 70, 1481, 865, 866, 867, 868, 270, 272, 1482, 1483, 1484, 1485] (by decide +kernel) (by decide +kernel)
set_option maxRecDepth 20000 in
theorem in_wsL_law_r29 : GoodIn lw_tbl wsL_law_r29 := goodIn_r _ [869, 870, 871, 872, 311, 873, 874, 875, 876, 877, 878, 879, 880, 881, 882, 883, 884, 885, 886, 887, 888, 1486, 1487, 1488] (by decide +kernel) (by decide +kernel)
set_option maxRecDepth 20000 in
theorem in_wsL_law_r30 : GoodIn lw_tbl wsL_law_r30 := goodIn_r _ [1489, 1490, 1491, 1492, 1493, 1494, 1495, 1496, 1498, 71, 1499, 1500, 1502, 72, 1503, 1504, 1506, 73, 1507, 889, 890, 891, 892, 144] (by decide +kernel) (by decide +kernel)
set_option maxRecDepth 20000 in
theorem in_wsL_law_r31 : GoodIn lw_tbl wsL_law_r31 := goodIn_r _ [1508, 1509, 1510, 1511, 1512, 1514, 74, 1515, 893, 894, 895, 896, 897, 898, 899, 900, 901, 902, 903, 904, 905, 906, 907, 908] (by decide +kernel) (by decide +kernel)
set_option maxRecDepth 20000 in
theorem in_wsL_law_r32 : GoodIn lw_tbl wsL_law_r32 := goodIn_r _ [145, 909, 910, 911, 912, 913, 914, 916, 34, 917, 918, 919, 120, 920, 921, 922, 923, 1516, 1517, 1518, 1519, 1520, 1522, 75] (by decide +kernel) (by decide +kernel)
set_option maxRecDepth 20000 in
theorem in_wsL_law_r33 : GoodIn lw_tbl wsL_law_r33 := goodIn_r _ [1523, 1524, 1526, 76, 1527, 1528, 1530, 77, 1531, 1532, 1534, 78, 1535, 1536, 1538, 79, 1539, 1540, 1542, 80, 1543, 1544, 1546, 81] (by decide +kernel) (by decide +kernel)
set_option maxRecDepth 20000 in
theorem in_wsL_law_r34 : GoodIn lw_tbl wsL_law_r34 := goodIn_r _ [1547, 1548, 1550, 82, 1551, 1552, 1553, 1554, 924, 925, 926, 927, 928, 929, 930, 931, 932, 933, 934, 935, 936, 937, 938, 939] (by decide +kernel) (by decide +kernel)
set_option maxRecDepth 20000 in
theorem in_wsL_law_r35 : GoodIn lw_tbl wsL_law_r35 := goodIn_r _ [940, 1555, 1556, 1557, 1558, 1259, 1260, 1559, 1561, 83, 1562, 941, 942, 943, 944, 945, 946, 947, 948, 949, 950, 951, 952, 1563] (by decide +kernel) (by decide +kernel)
set_option maxRecDepth 20000 in
theorem in_wsL_law_r36 : GoodIn lw_tbl wsL_law_r36 := goodIn_r _ [1564, 1565, 1566, 1567, 1569, 84, 1570, 953, 954, 955, 956, 957, 958, 959, 960, 961, 962, 964, 35, 965, 142, 309, 984, 985] (by decide +kernel) (by decide +kernel)
set_option maxRecDepth 20000 in
theorem in_wsL_law_r37 : GoodIn lw_tbl wsL_law_r37 := goodIn_r _ [986, 966, 968, 36, 969, 970, 971, 972, 973, 975, 37, 976, 977, 978, 979, 980, 981, 982, 983, 1571, 1572, 1573, 1574, 1263] (by decide +kernel) (by decide +kernel)
set_option maxRecDepth 20000 in
theorem in_wsL_law_r38 : GoodIn lw_tbl wsL_law_r38 := goodIn_r _ [1575, 1577, 85, 1578, 1579, 1581, 86, 1582, 987, 988, 989, 990, 378, 991, 992, 993, 994, 995, 997, 38, 998, 999, 1000, 1001] (by decide +kernel) (by decide +kernel)
set_option maxRecDepth 20000 in
theorem in_wsL_law_r39 : GoodIn lw_tbl wsL_law_r39 := goodIn_r _ [1002, 1003, 1004, 1005, 1006, 1583, 1584, 1585, 1586, 1587, 1589, 87, 1590, 1007, 1008, 1009, 1010, 1591, 1592, 1593, 1594, 1011, 1012, 1013] (by decide +kernel) (by decide +kernel)
set_option maxRecDepth 20000 in
theorem in_wsL_law_r40 : GoodIn lw_tbl wsL_law_r40 := goodIn_r _ [1014, 1595, 1596, 1597, 1598, 1015, 1016, 1017, 1018, 380, 1599, 1600, 1601, 1602, 1019, 1020, 1021, 1022, 384, 388, 392, 394, 1603, 1604] (by decide +kernel) (by decide +kernel)
set_option maxRecDepth 20000 in
theorem in_wsL_law_r41 : GoodIn lw_tbl wsL_law_r41 := goodIn_r _ [1605, 1606, 1023, 1024, 1025, 1026, 1027, 1028, 1029, 1030, 1031, 1033, 39, 1034, 1035, 1607, 1608, 1609, 1610, 1036, 1037, 1038, 1039, 1040] (by decide +kernel) (by decide +kernel)
set_option maxRecDepth 20000 in
theorem in_wsL_law_r42 : GoodIn lw_tbl wsL_law_r42 := goodIn_r _ [1041, 1042, 1043, 1044, 1045, 1046, 1047, 1611, 1612, 1613, 1614, 1615, 1617, 88, 1618, 1048, 1049, 1050, 1051, 1052, 1053, 1054, 1055, 376] (by decide +kernel) (by decide +kernel)
set_option maxRecDepth 20000 in
theorem in_wsL_law_r43 : GoodIn lw_tbl wsL_law_r43 := goodIn_r _ [382, 390, 1056, 1057, 1058, 1059, 1060, 1061, 1062, 1063, 1064, 1065, 1067, 40, 1068, 386, 1069, 1071, 41, 1072, 1073, 1074, 1075, 1077] (by decide +kernel) (by decide +kernel)
set_option maxRecDepth 20000 in
theorem in_wsL_law_r44 : GoodIn lw_tbl wsL_law_r44 := goodIn_r _ [42, 1078, 1079, 1081, 43, 1082, 1619, 1620, 1621, 1622, 1270, 1623, 1625, 89, 1626, 1627, 1629, 90, 1630, 1631, 1633, 91, 1634, 1083] (by decide +kernel) (by decide +kernel)
set_option maxRecDepth 20000 in
theorem in_wsL_law_r45 : GoodIn lw_tbl wsL_law_r45 := goodIn_r _ [1084, 1085, 1086, 1087, 1088, 1089, 1090, 310, 1091, 1093, 44, 1094, 143, 1095, 1096, 1097, 1098, 1099, 1100, 1635, 1636, 1637, 1638, 1639] (by decide +kernel) (by decide +kernel)
set_option maxRecDepth 20000 in
theorem in_wsL_law_r46 : GoodIn lw_tbl wsL_law_r46 := goodIn_r _ [1641, 92, 1642, 1643, 1645, 93, 1646, 1101, 1102, 1103, 1104, 1105, 1106, 1107, 1108, 1647, 1648, 1649, 1650, 1109, 1110, 1111, 1112, 456] (by decide +kernel) (by decide +kernel)
set_option maxRecDepth 20000 in
theorem in_wsL_law_r47 : GoodIn lw_tbl wsL_law_r47 := goodIn_r _ [1651, 1652, 1653, 1654, 1655, 1657, 94, 1658, 1659, 1660, 1661, 1662, 1113, 1114, 1115, 1116, 454, 458, 1663, 1664, 1665, 1666, 1117, 1118] (by decide +kernel) (by decide +kernel)
set_option maxRecDepth 20000 in
theorem in_wsL_law_r48 : GoodIn lw_tbl wsL_law_r48 := goodIn_r _ [1119, 1120, 182, 1121, 1122, 1123, 1124, 1667, 1668, 1669, 1670, 1279, 1125, 1126, 1127, 1128, 1129, 1130, 1131, 1132, 1671, 1672, 1673, 1674] (by decide +kernel) (by decide +kernel)
set_option maxRecDepth 20000 in
theorem in_wsL_law_r49 : GoodIn lw_tbl wsL_law_r49 := goodIn_r _ [1133, 1134, 1135, 1136, 487, 1137, 1675, 1676, 1677, 1678, 1679, 1138, 1139, 1140, 1141, 520, 522, 524, 526, 1142, 1143, 1144, 1145, 1146] (by decide +kernel) (by decide +kernel)
set_option maxRecDepth 20000 in
theorem in_wsL_law_r50 : GoodIn lw_tbl wsL_law_r50 := goodIn_r _ [1147, 1150, 45, 1151, 377, 383, 391, 1152, 1154, 46, 1155, 387, 1156, 1157, 1158, 1159, 1160, 1161, 1163, 47, 1164, 1165, 1166, 1167] (by decide +kernel) (by decide +kernel)
set_option maxRecDepth 20000 in
theorem in_wsL_law_r51 : GoodIn lw_tbl wsL_law_r51 := goodIn_r _ [1169, 48, 1170, 1172, 1171, 1680, 1681, 1682, 1683, 1684, 1686, 95, 1687, 1688, 1690, 96, 1691, 1692, 1694, 97, 1695, 1173, 1174, 1175] (by decide +kernel) (by decide +kernel)
set_option maxRecDepth 20000 in
theorem in_wsL_law_r52 : GoodIn lw_tbl wsL_law_r52 := goodIn_r _ [1176, 1177, 1178, 1179, 1180, 1181, 1183, 49, 1184, 1696, 1697, 1698, 1699, 1185, 1186, 1187, 1188, 1189, 1190, 1191, 1192, 1700, 1701, 1702] (by decide +kernel) (by decide +kernel)
set_option maxRecDepth 20000 in
theorem in_wsL_law_r53 : GoodIn lw_tbl wsL_law_r53 := goodIn_r _ [1703, 1193, 1194, 1195, 1196, 189, 1197, 1198, 1199, 1200, 1704, 1705, 1706, 1707, 1708, 1710, 98, 1711] (by decide +kernel) (by decide +kernel)
set_option maxRecDepth 20000 in
theorem in_wsX110 : GoodIn lw_tbl wsX110 := goodIn_r _ [634, 636, 638, 640, 642, 644, 646, 648, 650, 652, 654, 656] (by decide +kernel) (by decide +kernel)
set_option maxRecDepth 20000 in
theorem in_wsX120 : GoodIn lw_tbl wsX120 := goodIn_r _ [1286, 1288, 1290, 1292, 1294, 1296, 1298, 1300, 1302, 1304, 1306, 1308, 1310, 1312, 1314, 1316, 1318, 1320, 1322, 1324, 1326, 1328, 1330, 1332, 1334, 1336, 1338, 1340, 1342, 1344, 1346, 1348, 1350, 1352, 1354, 1356, 1358, 1360, 1362, 1364, 1366, 1368, 1370, 1372, 1374, 1376, 1378, 1380, 1382, 1384, 1386, 1388, 1390, 1392, 1394] (by decide +kernel) (by decide +kernel)
set_option maxRecDepth 20000 in
theorem in_wsX100 : GoodIn lw_tbl wsX100 := goodIn_r _ [211, 213, 215, 217, 219, 221, 223, 225, 227, 229, 231, 233, 235] (by decide +kernel) (by decide +kernel)
set_option maxRecDepth 20000 in
theorem in_wsX50 : GoodIn lw_tbl wsX50 := goodIn_r _ [281, 283, 285, 287, 289, 291, 293, 295, 297, 299] (by decide +kernel) (by decide +kernel)
set_option maxRecDepth 20000 in
theorem in_wsX20 : GoodIn lw_tbl wsX20 := goodIn_r _ [323, 325, 327, 329, 331, 333, 335, 337, 339, 341, 343, 345] (by decide +kernel) (by decide +kernel)
set_option maxRecDepth 20000 in
theorem in_wsX60 : GoodIn lw_tbl wsX60 := goodIn_r _ [360, 362, 364] (by decide +kernel) (by decide +kernel)
set_option maxRecDepth 20000 in
theorem in_wsX30 : GoodIn lw_tbl wsX30 := goodIn_r _ [398, 400, 402, 404, 406, 408, 410, 412, 414] (by decide +kernel) (by decide +kernel)
set_option maxRecDepth 20000 in
theorem in_wsX10 : GoodIn lw_tbl wsX10 := goodIn_r _ [432, 434, 436, 438, 440, 442, 444] (by decide +kernel) (by decide +kernel)
set_option maxRecDepth 20000 in
theorem in_wsX00 : GoodIn lw_tbl wsX00 := goodIn_r _ [463, 465, 467, 469, 471, 473, 475] (by decide +kernel) (by decide +kernel)
set_option maxRecDepth 20000 in
theorem in_wsX70 : GoodIn lw_tbl wsX70 := goodIn_r _ [494, 496, 498, 500, 502, 504, 506, 508] (by decide +kernel) (by decide +kernel)
set_option maxRecDepth 20000 in
theorem in_wsX80 : GoodIn lw_tbl wsX80 := goodIn_r _ [533, 535, 537, 539, 541, 543, 545, 547, 549, 551] (by decide +kernel) (by decide +kernel)
set_option maxRecDepth 20000 in
theorem in_wsX40 : GoodIn lw_tbl wsX40 := goodIn_r _ [155, 157, 159, 161, 163, 165, 167] (by decide +kernel) (by decide +kernel)
set_option maxRecDepth 20000 in
theorem in_wsX90 : GoodIn lw_tbl wsX90 := goodIn_r _ [258, 260, 262, 264, 266] (by decide +kernel) (by decide +kernel)
theorem wsL_good : GoodIn lw_tbl wsL_law := goodIn_app (goodIn_app (goodIn_app (goodIn_app (goodIn_app (goodIn_app (goodIn_app (goodIn_app (goodIn_app (goodIn_app (goodIn_app (goodIn_app (goodIn_app (goodIn_app ((goodIn_app in_wsL_law_r1 (goodIn_app in_wsL_law_r2 (goodIn_app in_wsL_law_r3 (goodIn_app in_wsL_law_r4 (goodIn_app in_wsL_law_r5 (goodIn_app in_wsL_law_r6 (goodIn_app in_wsL_law_r7 (goodIn_app in_wsL_law_r8 (goodIn_app in_wsL_law_r9 (goodIn_app in_wsL_law_r10 (goodIn_app in_wsL_law_r11 (goodIn_app in_wsL_law_r12 (goodIn_app in_wsL_law_r13 (goodIn_app in_wsL_law_r14 (goodIn_app in_wsL_law_r15 (goodIn_app in_wsL_law_r16 (goodIn_app in_wsL_law_r17 (goodIn_app in_wsL_law_r18 (goodIn_app in_wsL_law_r19 (goodIn_app in_wsL_law_r20 (goodIn_app in_wsL_law_r21 (goodIn_app in_wsL_law_r22 (goodIn_app in_wsL_law_r23 (goodIn_app in_wsL_law_r24 (goodIn_app in_wsL_law_r25 (goodIn_app in_wsL_law_r26 (goodIn_app in_wsL_law_r27 (goodIn_app in_wsL_law_r28 (goodIn_app in_wsL_law_r29 (goodIn_app in_wsL_law_r30 (goodIn_app in_wsL_law_r31 (goodIn_app in_wsL_law_r32 (goodIn_app in_wsL_law_r33 (goodIn_app in_wsL_law_r34 (goodIn_app in_wsL_law_r35 (goodIn_app in_wsL_law_r36 (goodIn_app in_wsL_law_r37 (goodIn_app in_wsL_law_r38 (goodIn_app in_wsL_law_r39 (goodIn_app in_wsL_law_r40 (goodIn_app in_wsL_law_r41 (goodIn_app in_wsL_law_r42 (goodIn_app in_wsL_law_r43 (goodIn_app in_wsL_law_r44 (goodIn_app in_wsL_law_r45 (goodIn_app in_wsL_law_r46 (goodIn_app in_wsL_law_r47 (goodIn_app in_wsL_law_r48 (goodIn_app in_wsL_law_r49 (goodIn_app in_wsL_law_r50 (goodIn_app in_wsL_law_r51 (goodIn_app in_wsL_law_r52 (in_wsL_law_r53)))))))))))))))))))))))))))))))))))))))))))))))))))))) in_wsX110) in_wsX120) in_wsX100) in_wsX50) in_wsX20) in_wsX60) in_wsX30) in_wsX10) in_wsX00) in_wsX70) in_wsX80) in_wsX40) in_wsX90) (fun _ h => absurd h List.not_mem_nil)
theorem wsL_law_in : ∀ w ∈ wsL_law, w ∈ lw_tbl := fun w h => (wsL_good w h).1
