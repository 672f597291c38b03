set_option maxRecDepth 20000 in
theorem ggL_law_X11_since : GoodIn wsL_law wsX11_since := goodIn_r _ [982, 35, 983, 984, 985, 34, 986, 136, 143, 987, 988, 989, 71, 990, 76, 970, 971, 972, 973, 77, 78, 80, 81, 82, 1266, 1267, 1268, 1269, 1270, 1271, 1272, 1273, 1274, 1275, 1276, 1277, 1371, 1372, 1373, 1374, 1375, 1376, 1377, 1378, 1379, 1412, 1413, 1414, 1415, 1416, 1417, 1418] (by decide +kernel) (by decide +kernel)
set_option maxRecDepth 20000 in
theorem gL_law_X11_since : GoodIn wsL_law (wsV RL 84 RX11 yX11_since wsX11_since) := goodIn_app (goodIn_of _ (by decide +kernel)) ggL_law_X11_since
set_option maxRecDepth 20000 in
theorem ggL_law_X11_storms : GoodIn wsL_law wsX11_storms := goodIn_r _ [1166, 51, 1167, 1168, 1169, 1170, 1171, 1172, 1173, 50, 1174, 190, 183, 184, 185, 186, 188, 192, 189, 1175, 1011, 1012, 34, 1013, 143, 1176, 249, 250, 71, 251, 76, 77, 78, 79, 80, 81, 82, 1177, 1178, 1179, 1180, 1181, 1182, 1183, 1184, 1185, 1186, 1187, 191, 193, 1188, 910, 911, 26, 912, 744, 913, 805, 806, 807, 112, 736, 737, 738, 739, 115, 207, 208, 116, 209, 740, 741, 742, 743, 117, 118, 119, 120, 745, 746, 747, 748, 749, 690, 691, 692, 750, 751, 752, 753, 113, 121, 122, 123, 114, 754, 755, 756, 757, 758, 759, 760, 808, 809, 810, 914, 812, 813, 915, 815, 816, 916, 877, 878, 879, 880, 881, 882, 1189, 1190, 1191, 46, 1192, 171, 173, 174, 175, 176, 1193, 1194, 1195, 1196, 177, 178, 1197, 685, 686, 687, 688, 558, 559, 560, 689, 1198, 1199, 1200, 1201, 1202, 1203, 393, 394, 395, 1204, 1266, 1267, 1268, 1269, 1270, 1271, 1272, 1273, 1274, 1275, 1276, 1277, 1402, 1403, 1404, 1405, 1406, 1407, 1408, 1409, 1410, 1411, 1371, 1372, 1373, 1374, 1375, 1376, 1377, 1378, 1379, 1412, 1413, 1414, 1415, 1416, 1417, 1418, 1356, 1357, 1358, 1359, 1360, 1361, 1362, 1363, 1364, 1365, 1366, 1367, 1394, 1395, 1396, 1397, 1398, 1399, 1400, 1401] (by decide +kernel) (by decide +kernel)
set_option maxRecDepth 20000 in
theorem gL_law_X11_storms : GoodIn wsL_law (wsV RL 121 RX11 yX11_storms wsX11_storms) := goodIn_app (goodIn_of _ (by decide +kernel)) ggL_law_X11_storms
set_option maxRecDepth 20000 in
theorem ggL_law_X11_turn : GoodIn wsL_law wsX11_turn := goodIn_r _ [718, 35, 719, 677, 678, 2, 679, 680, 681, 682, 34, 683, 143, 136, 1266, 1267, 1268, 1269, 1270, 1271, 1272, 1273, 1274, 1275, 1276, 1277, 1412, 1413, 1414, 1415, 1416, 1417, 1418, 1371, 1372, 1373, 1374, 1375, 1376, 1377, 1378, 1379] (by decide +kernel) (by decide +kernel)
set_option maxRecDepth 20000 in
theorem gL_law_X11_turn : GoodIn wsL_law (wsV RL 37 RX11 yX11_turn wsX11_turn) := goodIn_app (goodIn_of _ (by decide +kernel)) ggL_law_X11_turn
set_option maxRecDepth 20000 in
theorem ggL_law_X11_undo : GoodIn wsL_law wsX11_undo := goodIn_r _ [936, 35, 900, 1266, 1267, 1268, 1269, 1270, 1271, 1272, 1273, 1274, 1275, 1276, 1277, 1371, 1372, 1373, 1374, 1375, 1376, 1377, 1378, 1379] (by decide +kernel) (by decide +kernel)
set_option maxRecDepth 20000 in
theorem gL_law_X11_undo : GoodIn wsL_law (wsV RL 67 RX11 yX11_undo wsX11_undo) := goodIn_app (goodIn_of _ (by decide +kernel)) ggL_law_X11_undo
set_option maxRecDepth 20000 in
theorem ggL_law_X11_untell : GoodIn wsL_law wsX11_untell := goodIn_r _ [1143, 47, 1144, 1145, 1146, 46, 1147, 171, 178, 172, 1266, 1267, 1268, 1269, 1270, 1271, 1272, 1273, 1274, 1275, 1276, 1277, 1394, 1395, 1396, 1397, 1398, 1399, 1400, 1401] (by decide +kernel) (by decide +kernel)
set_option maxRecDepth 20000 in
theorem gL_law_X11_untell : GoodIn wsL_law (wsV RL 112 RX11 yX11_untell wsX11_untell) := goodIn_app (goodIn_of _ (by decide +kernel)) ggL_law_X11_untell
set_option maxRecDepth 20000 in
theorem ggL_law_X11_value : GoodIn wsL_law wsX11_value := goodIn_r _ [850, 31, 35, 677, 678, 2, 679, 680, 681, 682, 34, 683, 143, 136, 851, 852, 853, 30, 854, 129, 130, 855, 249, 250, 71, 251, 76, 77, 78, 79, 80, 81, 82, 856, 857, 858, 859, 131, 860, 861, 862, 863, 394, 864, 865, 866, 867, 868, 869, 737, 738, 26, 739, 115, 207, 208, 116, 209, 870, 836, 837, 838, 112, 740, 741, 742, 743, 744, 117, 118, 119, 120, 745, 746, 747, 748, 749, 690, 691, 692, 750, 751, 752, 753, 113, 121, 122, 123, 114, 871, 872, 873, 874, 875, 876, 877, 878, 879, 880, 881, 882, 1266, 1267, 1268, 1269, 1270, 1271, 1272, 1273, 1274, 1275, 1276, 1277, 1371, 1372, 1373, 1374, 1375, 1376, 1377, 1378, 1379, 1368, 1369, 1370, 1412, 1413, 1414, 1415, 1416, 1417, 1418, 1356, 1357, 1358, 1359, 1360, 1361, 1362, 1363, 1364, 1365, 1366, 1367] (by decide +kernel) (by decide +kernel)
set_option maxRecDepth 20000 in
theorem gL_law_X11_value : GoodIn wsL_law (wsV RL 54 RX11 yX11_value wsX11_value) := goodIn_app (goodIn_of _ (by decide +kernel)) ggL_law_X11_value
set_option maxRecDepth 20000 in
theorem ggL_law_X12_about : GoodIn wsL_law wsX12_about := goodIn_r _ [1261, 290, 339, 291, 340, 341, 578, 1139, 362, 292, 707, 708, 709, 5, 710, 288, 289, 1262, 1263, 1264, 1265, 308, 1278, 1279, 1280, 1281, 1282, 1283, 1284, 1285, 1286, 1287, 1288, 1289, 1290, 1291, 1292, 1293, 1294, 1295, 1296, 1297, 1298, 1299, 1300, 1301, 1302, 1303, 1304, 1305, 1306, 1307, 1308, 1309, 1310, 1311, 1312, 1313, 1314, 1315, 1316, 1317, 1318, 1319, 1320, 1321, 1322, 1323, 1324, 1325, 1326, 1327, 1328, 1329, 1330, 1331, 1332] (by decide +kernel) (by decide +kernel)
set_option maxRecDepth 20000 in
theorem gL_law_X12_about : GoodIn wsL_law (wsV RL 136 RX12 yX12_about wsX12_about) := goodIn_app (goodIn_of _ (by decide +kernel)) ggL_law_X12_about
set_option maxRecDepth 20000 in
theorem ggL_law_X12_at : GoodIn wsL_law wsX12_at := goodIn_r _ [696, 697, 698, 5, 699, 700, 701, 702, 703, 704, 705, 706, 707, 708, 709, 710, 288, 339, 289, 711, 712, 713, 714, 340, 346, 347, 348, 349, 286, 1278, 1279, 1280, 1281, 1282, 1283, 1284, 1285, 1286, 1287, 1288, 1289, 1290, 1291, 1292, 1293, 1294, 1295, 1296, 1297, 1298, 1299, 1300, 1301, 1302, 1303, 1304, 1305, 1306, 1307, 1308, 1309, 1310, 1311, 1312, 1313, 1314, 1315, 1316, 1317, 1318, 1319, 1320, 1321, 1322, 1323, 1324, 1325, 1326, 1327, 1328, 1329, 1330, 1331, 1332] (by decide +kernel) (by decide +kernel)
set_option maxRecDepth 20000 in
theorem gL_law_X12_at : GoodIn wsL_law (wsV RL 36 RX12 yX12_at wsX12_at) := goodIn_app (goodIn_of _ (by decide +kernel)) ggL_law_X12_at
set_option maxRecDepth 20000 in
theorem ggL_law_X12_back : GoodIn wsL_law wsX12_back := goodIn_r _ [1248, 316, 340, 341, 286, 317, 305, 318, 306, 319, 307, 320, 308, 321, 700, 701, 5, 702, 1278, 1279, 1280, 1281, 1282, 1283, 1284, 1285, 1286, 1287, 1288, 1289, 1290, 1291, 1292, 1293, 1294, 1295, 1296, 1297, 1298, 1299, 1300, 1301, 1302, 1303, 1304, 1305, 1306, 1307, 1308, 1309, 1310, 1311, 1312, 1313, 1314, 1315, 1316, 1317, 1318, 1319, 1320, 1321, 1322, 1323, 1324, 1325, 1326, 1327, 1328, 1329, 1330, 1331, 1332] (by decide +kernel) (by decide +kernel)
set_option maxRecDepth 20000 in
theorem gL_law_X12_back : GoodIn wsL_law (wsV RL 132 RX12 yX12_back wsX12_back) := goodIn_app (goodIn_of _ (by decide +kernel)) ggL_law_X12_back
set_option maxRecDepth 20000 in
theorem ggL_law_X12_blank : GoodIn wsL_law wsX12_blank := goodIn_r _ [932, 340, 921, 922, 923, 5, 924, 305, 306, 307, 308, 341, 711, 712, 713, 714, 342, 343, 344, 345, 346, 347, 348, 349, 286, 331, 332, 333, 334, 1278, 1279, 1280, 1281, 1282, 1283, 1284, 1285, 1286, 1287, 1288, 1289, 1290, 1291, 1292, 1293, 1294, 1295, 1296, 1297, 1298, 1299, 1300, 1301, 1302, 1303, 1304, 1305, 1306, 1307, 1308, 1309, 1310, 1311, 1312, 1313, 1314, 1315, 1316, 1317, 1318, 1319, 1320, 1321, 1322, 1323, 1324, 1325, 1326, 1327, 1328, 1329, 1330, 1331, 1332] (by decide +kernel) (by decide +kernel)
set_option maxRecDepth 20000 in
theorem gL_law_X12_blank : GoodIn wsL_law (wsV RL 66 RX12 yX12_blank wsX12_blank) := goodIn_app (goodIn_of _ (by decide +kernel)) ggL_law_X12_blank
set_option maxRecDepth 20000 in
theorem ggL_law_X12_book : GoodIn wsL_law wsX12_book := goodIn_r _ [961, 340, 305, 306, 307, 308, 700, 701, 5, 702, 1278, 1279, 1280, 1281, 1282, 1283, 1284, 1285, 1286, 1287, 1288, 1289, 1290, 1291, 1292, 1293, 1294, 1295, 1296, 1297, 1298, 1299, 1300, 1301, 1302, 1303, 1304, 1305, 1306, 1307, 1308, 1309, 1310, 1311, 1312, 1313, 1314, 1315, 1316, 1317, 1318, 1319, 1320, 1321, 1322, 1323, 1324, 1325, 1326, 1327, 1328, 1329, 1330, 1331, 1332] (by decide +kernel) (by decide +kernel)
set_option maxRecDepth 20000 in
theorem gL_law_X12_book : GoodIn wsL_law (wsV RL 79 RX12 yX12_book wsX12_book) := goodIn_app (goodIn_of _ (by decide +kernel)) ggL_law_X12_book
set_option maxRecDepth 20000 in
theorem ggL_law_X12_code : GoodIn wsL_law wsX12_code := goodIn_r _ [1107, 309, 1108, 1109, 1110, 5, 1111, 292, 339, 1112, 293, 1113, 1114, 1115, 1278, 1279, 1280, 1281, 1282, 1283, 1284, 1285, 1286, 1287, 1288, 1289, 1290, 1291, 1292, 1293, 1294, 1295, 1296, 1297, 1298, 1299, 1300, 1301, 1302, 1303, 1304, 1305, 1306, 1307, 1308, 1309, 1310, 1311, 1312, 1313, 1314, 1315, 1316, 1317, 1318, 1319, 1320, 1321, 1322, 1323, 1324, 1325, 1326, 1327, 1328, 1329, 1330, 1331, 1332] (by decide +kernel) (by decide +kernel)
set_option maxRecDepth 20000 in
theorem gL_law_X12_code : GoodIn wsL_law (wsV RL 103 RX12 yX12_code wsX12_code) := goodIn_app (goodIn_of _ (by decide +kernel)) ggL_law_X12_code
