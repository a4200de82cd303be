theorem in_wsL_law0_r1 : ∀ w ∈ wsL_law0_r1, w ∈ lw_tbl := fun w h => (goodIn_r wsL_law0_r1 [68, 69, 46, 1073, 1074, 55, 1565, 1564, 70, 71, 72, 73, 74, 75, 76, 77, 47, 357, 358, 158, 359, 180, 181, 50] (by decide +kernel) (by decide +kernel) w h).1
theorem in_wsL_law0_r2 : ∀ w ∈ wsL_law0_r2, w ∈ lw_tbl := fun w h => (goodIn_r wsL_law0_r2 [160, 360, 219, 220, 51, 361, 276, 277, 52, 362, 308, 309, 53, 363, 329, 330, 54, 364, 79, 80, 81, 82, 83, 48] (by decide +kernel) (by decide +kernel) w h).1
theorem in_wsL_law0_r3 : ∀ w ∈ wsL_law0_r3, w ∈ lw_tbl := fun w h => (goodIn_r wsL_law0_r3 [157, 178, 159, 165, 84, 85, 86, 87, 116, 117, 123, 126, 88, 129, 139, 90, 49, 91, 92, 93, 94, 95, 99, 100] (by decide +kernel) (by decide +kernel) w h).1
theorem in_wsL_law0_r4 : ∀ w ∈ wsL_law0_r4, w ∈ lw_tbl := fun w h => (goodIn_r wsL_law0_r4 [101, 182, 183, 184, 185, 186, 188, 190, 187, 221, 222, 223, 224, 230, 225, 232, 236, 238, 227, 278, 279, 280, 281, 283] (by decide +kernel) (by decide +kernel) w h).1
theorem in_wsL_law0_r5 : ∀ w ∈ wsL_law0_r5, w ∈ lw_tbl := fun w h => (goodIn_r wsL_law0_r5 [284, 282, 310, 311, 312, 313, 315, 317, 319, 314, 332, 333, 334, 335, 336, 337, 338, 339, 1075, 1076, 1077, 1078, 1088, 1089] (by decide +kernel) (by decide +kernel) w h).1
theorem in_wsL_law0_r6 : ∀ w ∈ wsL_law0_r6, w ∈ lw_tbl := fun w h => (goodIn_r wsL_law0_r6 [1175, 1090, 1101, 1103, 1104, 1105, 1107, 1112, 1113, 1114, 1079, 1081, 3, 1082, 1100, 1099, 1091, 1083, 1085, 4, 1086, 382, 383, 384] (by decide +kernel) (by decide +kernel) w h).1
theorem in_wsL_law0_r7 : ∀ w ∈ wsL_law0_r7, w ∈ lw_tbl := fun w h => (goodIn_r wsL_law0_r7 [385, 162, 386, 387, 388, 1180, 1181, 1182, 1183, 1087, 1184, 389, 390, 391, 392, 192, 164, 194, 166, 189, 135, 393, 394, 395] (by decide +kernel) (by decide +kernel) w h).1
theorem in_wsL_law0_r8 : ∀ w ∈ wsL_law0_r8, w ∈ lw_tbl := fun w h => (goodIn_r wsL_law0_r8 [396, 191, 193, 195, 198, 196, 397, 398, 399, 400, 133, 401, 402, 403, 404, 102, 405, 406, 56, 407, 408, 409, 410, 411] (by decide +kernel) (by decide +kernel) w h).1
theorem in_wsL_law0_r9 : ∀ w ∈ wsL_law0_r9, w ∈ lw_tbl := fun w h => (goodIn_r wsL_law0_r9 [197, 199, 412, 413, 414, 415, 416, 417, 418, 419, 420, 421, 422, 423, 424, 141, 131, 426, 427, 428, 429, 430, 431, 432] (by decide +kernel) (by decide +kernel) w h).1
theorem in_wsL_law0_r10 : ∀ w ∈ wsL_law0_r10, w ∈ lw_tbl := fun w h => (goodIn_r wsL_law0_r10 [57, 433, 1580, 434, 435, 436, 437, 438, 1581, 440, 441, 442, 443, 444, 445, 446, 447, 448, 449, 58, 450, 451, 452, 453] (by decide +kernel) (by decide +kernel) w h).1
theorem in_wsL_law0_r11 : ∀ w ∈ wsL_law0_r11, w ∈ lw_tbl := fun w h => (goodIn_r wsL_law0_r11 [454, 456, 457, 59, 458, 459, 460, 60, 461, 462, 463, 464, 465, 466, 467, 468, 469, 470, 471, 472, 474, 476, 478, 479] (by decide +kernel) (by decide +kernel) w h).1
theorem in_wsL_law0_r12 : ∀ w ∈ wsL_law0_r12, w ∈ lw_tbl := fun w h => (goodIn_r wsL_law0_r12 [480, 481, 136, 482, 483, 484, 485, 486, 487, 488, 489, 490, 491, 492, 493, 494, 495, 496, 497, 498, 499, 500, 501, 502] (by decide +kernel) (by decide +kernel) w h).1
theorem in_wsL_law0_r13 : ∀ w ∈ wsL_law0_r13, w ∈ lw_tbl := fun w h => (goodIn_r wsL_law0_r13 [503, 504, 505, 506, 507, 508, 509, 512, 513, 514, 515, 516, 517, 518, 519, 527, 528, 529, 530, 98, 533, 534, 535, 536] (by decide +kernel) (by decide +kernel) w h).1
theorem in_wsL_law0_r14 : ∀ w ∈ wsL_law0_r14, w ∈ lw_tbl := fun w h => (goodIn_r wsL_law0_r14 [541, 542, 543, 544, 103, 545, 546, 547, 548, 550, 551, 552, 553, 554, 556, 555, 61, 557, 558, 559, 560, 561, 1185, 1186] (by decide +kernel) (by decide +kernel) w h).1
theorem in_wsL_law0_r15 : ∀ w ∈ wsL_law0_r15, w ∈ lw_tbl := fun w h => (goodIn_r wsL_law0_r15 [1187, 1188, 1092, 1094, 1098, 1189, 1191, 5, 1192, 1093, 1097, 1096, 1095, 1193, 1195, 6, 1196, 1197, 1198, 1199, 1200, 1202, 7, 1203] (by decide +kernel) (by decide +kernel) w h).1
theorem in_wsL_law0_r16 : ∀ w ∈ wsL_law0_r16, w ∈ lw_tbl := fun w h => (goodIn_r wsL_law0_r16 [1204, 1225, 1226, 1258, 1102, 1205, 1207, 8, 1208, 1209, 1211, 9, 1212, 1213, 1215, 10, 1216, 1217, 1219, 11, 1220, 1221, 1223, 12] (by decide +kernel) (by decide +kernel) w h).1
theorem in_wsL_law0_r17 : ∀ w ∈ wsL_law0_r17, w ∈ lw_tbl := fun w h => (goodIn_r wsL_law0_r17 [1224, 1227, 1229, 13, 1230, 1247, 1231, 1232, 1233, 1234, 1235, 1236, 1237, 1238, 1240, 14, 1241, 1242, 1243, 1244, 1245, 1246, 1248, 1249] (by decide +kernel) (by decide +kernel) w h).1
theorem in_wsL_law0_r18 : ∀ w ∈ wsL_law0_r18, w ∈ lw_tbl := fun w h => (goodIn_r wsL_law0_r18 [1250, 1251, 1252, 1253, 1254, 1255, 1256, 1257, 562, 563, 564, 565, 1259, 1260, 1261, 1262, 566, 567, 568, 569, 132, 97, 573, 575] (by decide +kernel) (by decide +kernel) w h).1
theorem in_wsL_law0_r19 : ∀ w ∈ wsL_law0_r19, w ∈ lw_tbl := fun w h => (goodIn_r wsL_law0_r19 [570, 571, 572, 1263, 1264, 1265, 1266, 1267, 1268, 1269, 1270, 1272, 15, 1273, 1274, 1276, 16, 1277, 576, 577, 578, 579, 128, 580] (by decide +kernel) (by decide +kernel) w h).1
theorem in_wsL_law0_r20 : ∀ w ∈ wsL_law0_r20, w ∈ lw_tbl := fun w h => (goodIn_r wsL_law0_r20 [581, 582, 583, 1278, 1279, 1280, 1281, 1282, 1284, 17, 1285, 1286, 1288, 18, 1289, 1290, 1292, 19, 1293, 584, 585, 586, 587, 142] (by decide +kernel) (by decide +kernel) w h).1
theorem in_wsL_law0_r21 : ∀ w ∈ wsL_law0_r21, w ∈ lw_tbl := fun w h => (goodIn_r wsL_law0_r21 [1294, 1295, 1296, 1297, 588, 589, 590, 591, 104, 592, 1298, 1299, 1300, 1301, 593, 594, 595, 596, 1302, 1303, 1304, 1305, 597, 598] (by decide +kernel) (by decide +kernel) w h).1
theorem in_wsL_law0_r22 : ∀ w ∈ wsL_law0_r22, w ∈ lw_tbl := fun w h => (goodIn_r wsL_law0_r22 [599, 600, 122, 125, 601, 602, 603, 1306, 1307, 1308, 1309, 1310, 1311, 1312, 604, 605, 606, 607, 608, 609, 610, 1313, 1314, 1315] (by decide +kernel) (by decide +kernel) w h).1
theorem in_wsL_law0_r23 : ∀ w ∈ wsL_law0_r23, w ∈ lw_tbl := fun w h => (goodIn_r wsL_law0_r23 [1316, 611, 612, 613, 614, 615, 616, 617, 618, 619, 620, 62, 621, 622, 623, 624, 625, 626, 627, 628, 630, 631, 632, 633] (by decide +kernel) (by decide +kernel) w h).1
theorem in_wsL_law0_r24 : ∀ w ∈ wsL_law0_r24, w ∈ lw_tbl := fun w h => (goodIn_r wsL_law0_r24 [634, 1317, 1318, 1319, 1320, 1321, 1323, 20, 1324, 1325, 1327, 21, 1328, 1329, 1330, 1331, 1332, 1333, 1334, 1335, 1336, 1337, 635, 636] (by decide +kernel) (by decide +kernel) w h).1
theorem in_wsL_law0_r25 : ∀ w ∈ wsL_law0_r25, w ∈ lw_tbl := fun w h => (goodIn_r wsL_law0_r25 [637, 638, 639, 640, 641, 642, 643, 134, 340, 341, 119, 644, 124, 645, 646, 647, 648, 649, 650, 651, 652, 653, 656, 657] (by decide +kernel) (by decide +kernel) w h).1
theorem in_wsL_law0_r26 : ∀ w ∈ wsL_law0_r26, w ∈ lw_tbl := fun w h => (goodIn_r wsL_law0_r26 [658, 659, 660, 661, 662, 663, 665, 666, 667, 668, 669, 670, 671, 672, 673, 674, 675, 676, 677, 678, 679, 680, 681, 682] (by decide +kernel) (by decide +kernel) w h).1
theorem in_wsL_law0_r27 : ∀ w ∈ wsL_law0_r27, w ∈ lw_tbl := fun w h => (goodIn_r wsL_law0_r27 [683, 684, 689, 690, 63, 691, 685, 686, 687, 688, 1338, 1339, 1340, 1341, 1342, 1343, 1345, 22, 1346, 1347, 1348, 1349, 1350, 1352] (by decide +kernel) (by decide +kernel) w h).1
theorem in_wsL_law0_r28 : ∀ w ∈ wsL_law0_r28, w ∈ lw_tbl := fun w h => (goodIn_r wsL_law0_r28 [23, 1353, 1354, 1355, 1356, 692, 693, 694, 695, 696, 1357, 1358, 1359, 1360, 998, 999, 45, 1000, 1001, 1002, 1003, 1004, 1005, 1006] (by decide +kernel) (by decide +kernel) w h).1
theorem in_wsL_law0_r29 : ∀ w ∈ wsL_law0_r29, w ∈ lw_tbl := fun w h => (goodIn_r wsL_law0_r29 [67, 710, 711, 712, 713, 1071, 780, 781, 782, 1361, 1362, 1363, 1364, 1176, 1177, 1178, 1179, 697, 698, 699, 700, 701, 702, 703] (by decide +kernel) (by decide +kernel) w h).1
theorem in_wsL_law0_r30 : ∀ w ∈ wsL_law0_r30, w ∈ lw_tbl := fun w h => (goodIn_r wsL_law0_r30 [704, 1365, 1366, 1367, 1368, 1369, 1371, 24, 1372, 1373, 1375, 25, 1376, 706, 707, 708, 709, 714, 715, 716, 717, 718, 1377, 1378] (by decide +kernel) (by decide +kernel) w h).1
theorem in_wsL_law0_r31 : ∀ w ∈ wsL_law0_r31, w ∈ lw_tbl := fun w h => (goodIn_r wsL_law0_r31 [1379, 1380, 719, 720, 721, 722, 723, 724, 725, 726, 727, 728, 729, 730, 130, 96, 731, 732, 733, 734, 735, 243, 245, 736] (by decide +kernel) (by decide +kernel) w h).1
theorem in_wsL_law0_r32 : ∀ w ∈ wsL_law0_r32, w ∈ lw_tbl := fun w h => (goodIn_r wsL_law0_r32 [737, 738, 739, 240, 242, 138, 740, 741, 742, 743, 744, 745, 746, 751, 752, 747, 748, 749, 750, 753, 754, 755, 756, 757] (by decide +kernel) (by decide +kernel) w h).1
theorem in_wsL_law0_r33 : ∀ w ∈ wsL_law0_r33, w ∈ lw_tbl := fun w h => (goodIn_r wsL_law0_r33 [758, 63, 759, 760, 761, 762, 763, 764, 765, 766, 767, 768, 121, 769, 771, 772, 773, 774, 775, 776, 777, 778, 779, 783] (by decide +kernel) (by decide +kernel) w h).1
theorem in_wsL_law0_r34 : ∀ w ∈ wsL_law0_r34, w ∈ lw_tbl := fun w h => (goodIn_r wsL_law0_r34 [784, 785, 786, 787, 788, 789, 790, 791, 792, 793, 247, 248, 250, 795, 796, 797, 143, 794, 798, 799, 800, 801, 802, 804] (by decide +kernel) (by decide +kernel) w h).1
theorem in_wsL_law0_r35 : ∀ w ∈ wsL_law0_r35, w ∈ lw_tbl := fun w h => (goodIn_r wsL_law0_r35 [805, 806, 807, 808, 1381, 1382, 1383, 1384, 1385, 1387, 26, 1388, 1108, 1106, 1389, 1391, 27, 1392, 1393, 1395, 28, 1396, 1397, 1398] (by decide +kernel) (by decide +kernel) w h).1
theorem in_wsL_law0_r36 : ∀ w ∈ wsL_law0_r36, w ∈ lw_tbl := fun w h => (goodIn_r wsL_law0_r36 [1399, 1415, 1400, 1402, 29, 1403, 1404, 1405, 1406, 1407, 1409, 30, 1410, 1411, 1413, 31, 1414, 1416, 1418, 32, 1419, 1420, 1422, 33] (by decide +kernel) (by decide +kernel) w h).1
theorem in_wsL_law0_r37 : ∀ w ∈ wsL_law0_r37, w ∈ lw_tbl := fun w h => (goodIn_r wsL_law0_r37 [1423, 1424, 1426, 34, 1427, 1109, 1110, 1111, 1428, 1430, 35, 1431, 1432, 1434, 36, 1435, 1436, 1438, 37, 1439, 809, 810, 811, 812] (by decide +kernel) (by decide +kernel) w h).1
theorem in_wsL_law0_r38 : ∀ w ∈ wsL_law0_r38, w ∈ lw_tbl := fun w h => (goodIn_r wsL_law0_r38 [231, 813, 815, 0, 816, 1440, 1441, 1442, 1443, 817, 818, 819, 820, 826, 821, 823, 1, 824, 825, 1444, 1445, 1446, 1447, 1448] (by decide +kernel) (by decide +kernel) w h).1
theorem in_wsL_law0_r39 : ∀ w ∈ wsL_law0_r39, w ∈ lw_tbl := fun w h => (goodIn_r wsL_law0_r39 [827, 828, 829, 830, 235, 1449, 1450, 1451, 1452, 831, 832, 833, 834, 237, 835, 836, 837, 838, 839, 840, 841, 842, 843, 844] (by decide +kernel) (by decide +kernel) w h).1
theorem in_wsL_law0_r40 : ∀ w ∈ wsL_law0_r40, w ∈ lw_tbl := fun w h => (goodIn_r wsL_law0_r40 [845, 846, 847, 1453, 1454, 1455, 1456, 1457, 1458, 1459, 1460, 1462, 38, 1463, 848, 849, 850, 851, 852, 853, 854, 855, 856, 857] (by decide +kernel) (by decide +kernel) w h).1
theorem in_wsL_law0_r41 : ∀ w ∈ wsL_law0_r41, w ∈ lw_tbl := fun w h => (goodIn_r wsL_law0_r41 [858, 859, 1464, 1465, 1466, 1467, 1468, 1470, 39, 1471, 860, 861, 862, 863, 244, 864, 1472, 1473, 1474, 1475, 865, 866, 867, 868] (by decide +kernel) (by decide +kernel) w h).1
theorem in_wsL_law0_r42 : ∀ w ∈ wsL_law0_r42, w ∈ lw_tbl := fun w h => (goodIn_r wsL_law0_r42 [869, 1476, 1477, 1478, 1479, 870, 871, 872, 873, 874, 875, 876, 877, 878, 879, 880, 881, 1480, 1481, 1482, 1483, 1484, 1486, 40] (by decide +kernel) (by decide +kernel) w h).1
theorem in_wsL_law0_r43 : ∀ w ∈ wsL_law0_r43, w ∈ lw_tbl := fun w h => (goodIn_r wsL_law0_r43 [1487, 1488, 1490, 41, 1491, 882, 883, 884, 885, 246, 249, 886, 1492, 1493, 1494, 1495, 887, 888, 889, 890, 318, 316, 891, 892] (by decide +kernel) (by decide +kernel) w h).1
theorem in_wsL_law0_r44 : ∀ w ∈ wsL_law0_r44, w ∈ lw_tbl := fun w h => (goodIn_r wsL_law0_r44 [893, 894, 229, 140, 900, 895, 896, 897, 898, 899, 137, 234, 127, 120, 901, 902, 903, 904, 1496, 1497, 1498, 1499, 1500, 1502] (by decide +kernel) (by decide +kernel) w h).1
theorem in_wsL_law0_r45 : ∀ w ∈ wsL_law0_r45, w ∈ lw_tbl := fun w h => (goodIn_r wsL_law0_r45 [42, 1503, 905, 906, 907, 908, 909, 910, 911, 912, 1504, 1505, 1506, 1507, 914, 915, 916, 917, 286, 288, 290, 292, 918, 919] (by decide +kernel) (by decide +kernel) w h).1
theorem in_wsL_law0_r46 : ∀ w ∈ wsL_law0_r46, w ∈ lw_tbl := fun w h => (goodIn_r wsL_law0_r46 [920, 921, 228, 118, 285, 241, 239, 233, 922, 923, 924, 925, 926, 927, 928, 291, 287, 289, 929, 1508, 1509, 1510, 1511, 930] (by decide +kernel) (by decide +kernel) w h).1
theorem in_wsL_law0_r47 : ∀ w ∈ wsL_law0_r47, w ∈ lw_tbl := fun w h => (goodIn_r wsL_law0_r47 [931, 932, 933, 1512, 1513, 1514, 1515, 934, 935, 936, 937, 938, 945, 939, 940, 941, 942, 943, 944, 1516, 1517, 1518, 1519, 1520] (by decide +kernel) (by decide +kernel) w h).1
theorem in_wsL_law0_r48 : ∀ w ∈ wsL_law0_r48, w ∈ lw_tbl := fun w h => (goodIn_r wsL_law0_r48 [1115, 1521, 1523, 43, 1524, 1525, 946, 947, 948, 949, 950, 951, 1526, 1527, 1528, 1529, 1530, 952, 953, 954, 955, 956, 957, 1531] (by decide +kernel) (by decide +kernel) w h).1
theorem in_wsL_law0_r49 : ∀ w ∈ wsL_law0_r49, w ∈ lw_tbl := fun w h => (goodIn_r wsL_law0_r49 [1532, 1533, 1534, 1535, 958, 959, 960, 961, 962, 1536, 1537, 1538, 1539, 963, 964, 965, 966, 967, 968, 969, 970, 971, 972, 973] (by decide +kernel) (by decide +kernel) w h).1
theorem in_wsL_law0_r50 : ∀ w ∈ wsL_law0_r50, w ∈ lw_tbl := fun w h => (goodIn_r wsL_law0_r50 [974, 975, 1540, 1541, 1542, 1543, 976, 977, 978, 979, 1544, 1545, 1546, 1547, 980, 981, 982, 983, 1548, 1549, 1550, 1551, 984, 985] (by decide +kernel) (by decide +kernel) w h).1
theorem in_wsL_law0_r51 : ∀ w ∈ wsL_law0_r51, w ∈ lw_tbl := fun w h => (goodIn_r wsL_law0_r51 [986, 987, 988, 989, 990, 991, 161, 993, 163, 992, 1552, 1553, 1554, 1555, 1556, 1558, 44, 1559, 994, 995, 996, 997, 1560, 1561] (by decide +kernel) (by decide +kernel) w h).1
theorem in_wsL_law0_r52 : ∀ w ∈ wsL_law0_r52, w ∈ lw_tbl := fun w h => (goodIn_r wsL_law0_r52 [1562, 1563] (by decide +kernel) (by decide +kernel) w h).1
theorem in_wsX80 : ∀ w ∈ wsX80, w ∈ lw_tbl := fun w h => (goodIn_p wsX80 [] (by decide +kernel) (by decide +kernel) w h).1
theorem in_wsX90 : ∀ w ∈ wsX90, w ∈ lw_tbl := fun w h => (goodIn_p wsX90 [] (by decide +kernel) (by decide +kernel) w h).1
theorem in_wsX20 : ∀ w ∈ wsX20, w ∈ lw_tbl := fun w h => (goodIn_p wsX20 [] (by decide +kernel) (by decide +kernel) w h).1
theorem in_wsX40 : ∀ w ∈ wsX40, w ∈ lw_tbl := fun w h => (goodIn_p wsX40 [] (by decide +kernel) (by decide +kernel) w h).1
theorem in_wsX00 : ∀ w ∈ wsX00, w ∈ lw_tbl := fun w h => (goodIn_p wsX00 [] (by decide +kernel) (by decide +kernel) w h).1
theorem in_wsX50 : ∀ w ∈ wsX50, w ∈ lw_tbl := fun w h => (goodIn_p wsX50 [] (by decide +kernel) (by decide +kernel) w h).1
theorem in_wsX30 : ∀ w ∈ wsX30, w ∈ lw_tbl := fun w h => (goodIn_p wsX30 [] (by decide +kernel) (by decide +kernel) w h).1
theorem in_wsX60 : ∀ w ∈ wsX60, w ∈ lw_tbl := fun w h => (goodIn_p wsX60 [] (by decide +kernel) (by decide +kernel) w h).1
theorem in_wsX70 : ∀ w ∈ wsX70, w ∈ lw_tbl := fun w h => (goodIn_p wsX70 [] (by decide +kernel) (by decide +kernel) w h).1
theorem in_wsX10 : ∀ w ∈ wsX10, w ∈ lw_tbl := fun w h => (goodIn_p wsX10 [] (by decide +kernel) (by decide +kernel) w h).1
theorem in_wsL_law0_R : ∀ w ∈ wsL_law0_r1 ++ (wsL_law0_r2 ++ (wsL_law0_r3 ++ (wsL_law0_r4 ++ (wsL_law0_r5 ++ (wsL_law0_r6 ++ (wsL_law0_r7 ++ (wsL_law0_r8 ++ (wsL_law0_r9 ++ (wsL_law0_r10 ++ (wsL_law0_r11 ++ (wsL_law0_r12 ++ (wsL_law0_r13 ++ (wsL_law0_r14 ++ (wsL_law0_r15 ++ (wsL_law0_r16 ++ (wsL_law0_r17 ++ (wsL_law0_r18 ++ (wsL_law0_r19 ++ (wsL_law0_r20 ++ (wsL_law0_r21 ++ (wsL_law0_r22 ++ (wsL_law0_r23 ++ (wsL_law0_r24 ++ (wsL_law0_r25 ++ (wsL_law0_r26 ++ (wsL_law0_r27 ++ (wsL_law0_r28 ++ (wsL_law0_r29 ++ (wsL_law0_r30 ++ (wsL_law0_r31 ++ (wsL_law0_r32 ++ (wsL_law0_r33 ++ (wsL_law0_r34 ++ (wsL_law0_r35 ++ (wsL_law0_r36 ++ (wsL_law0_r37 ++ (wsL_law0_r38 ++ (wsL_law0_r39 ++ (wsL_law0_r40 ++ (wsL_law0_r41 ++ (wsL_law0_r42 ++ (wsL_law0_r43 ++ (wsL_law0_r44 ++ (wsL_law0_r45 ++ (wsL_law0_r46 ++ (wsL_law0_r47 ++ (wsL_law0_r48 ++ (wsL_law0_r49 ++ (wsL_law0_r50 ++ (wsL_law0_r51 ++ (wsL_law0_r52))))))))))))))))))))))))))))))))))))))))))))))))))), w ∈ lw_tbl := by
  intro w h
  rcases List.mem_append.mp h with h | h
  · exact in_wsL_law0_r1 w h
  rcases List.mem_append.mp h with h | h
  · exact in_wsL_law0_r2 w h
  rcases List.mem_append.mp h with h | h
  · exact in_wsL_law0_r3 w h
  rcases List.mem_append.mp h with h | h
  · exact in_wsL_law0_r4 w h
  rcases List.mem_append.mp h with h | h
  · exact in_wsL_law0_r5 w h
  rcases List.mem_append.mp h with h | h
  · exact in_wsL_law0_r6 w h
  rcases List.mem_append.mp h with h | h
  · exact in_wsL_law0_r7 w h
  rcases List.mem_append.mp h with h | h
  · exact in_wsL_law0_r8 w h
  rcases List.mem_append.mp h with h | h
  · exact in_wsL_law0_r9 w h
  rcases List.mem_append.mp h with h | h
  · exact in_wsL_law0_r10 w h
  rcases List.mem_append.mp h with h | h
  · exact in_wsL_law0_r11 w h
  rcases List.mem_append.mp h with h | h
  · exact in_wsL_law0_r12 w h
  rcases List.mem_append.mp h with h | h
  · exact in_wsL_law0_r13 w h
  rcases List.mem_append.mp h with h | h
  · exact in_wsL_law0_r14 w h
  rcases List.mem_append.mp h with h | h
  · exact in_wsL_law0_r15 w h
  rcases List.mem_append.mp h with h | h
  · exact in_wsL_law0_r16 w h
  rcases List.mem_append.mp h with h | h
  · exact in_wsL_law0_r17 w h
  rcases List.mem_append.mp h with h | h
  · exact in_wsL_law0_r18 w h
  rcases List.mem_append.mp h with h | h
  · exact in_wsL_law0_r19 w h
  rcases List.mem_append.mp h with h | h
  · exact in_wsL_law0_r20 w h
  rcases List.mem_append.mp h with h | h
  · exact in_wsL_law0_r21 w h
  rcases List.mem_append.mp h with h | h
  · exact in_wsL_law0_r22 w h
  rcases List.mem_append.mp h with h | h
  · exact in_wsL_law0_r23 w h
  rcases List.mem_append.mp h with h | h
  · exact in_wsL_law0_r24 w h
  rcases List.mem_append.mp h with h | h
  · exact in_wsL_law0_r25 w h
  rcases List.mem_append.mp h with h | h
  · exact in_wsL_law0_r26 w h
  rcases List.mem_append.mp h with h | h
  · exact in_wsL_law0_r27 w h
  rcases List.mem_append.mp h with h | h
  · exact in_wsL_law0_r28 w h
  rcases List.mem_append.mp h with h | h
  · exact in_wsL_law0_r29 w h
  rcases List.mem_append.mp h with h | h
  · exact in_wsL_law0_r30 w h
  rcases List.mem_append.mp h with h | h
  · exact in_wsL_law0_r31 w h
  rcases List.mem_append.mp h with h | h
  · exact in_wsL_law0_r32 w h
  rcases List.mem_append.mp h with h | h
  · exact in_wsL_law0_r33 w h
  rcases List.mem_append.mp h with h | h
  · exact in_wsL_law0_r34 w h
  rcases List.mem_append.mp h with h | h
  · exact in_wsL_law0_r35 w h
  rcases List.mem_append.mp h with h | h
  · exact in_wsL_law0_r36 w h
  rcases List.mem_append.mp h with h | h
  · exact in_wsL_law0_r37 w h
  rcases List.mem_append.mp h with h | h
  · exact in_wsL_law0_r38 w h
  rcases List.mem_append.mp h with h | h
  · exact in_wsL_law0_r39 w h
  rcases List.mem_append.mp h with h | h
  · exact in_wsL_law0_r40 w h
  rcases List.mem_append.mp h with h | h
  · exact in_wsL_law0_r41 w h
  rcases List.mem_append.mp h with h | h
  · exact in_wsL_law0_r42 w h
  rcases List.mem_append.mp h with h | h
  · exact in_wsL_law0_r43 w h
  rcases List.mem_append.mp h with h | h
  · exact in_wsL_law0_r44 w h
  rcases List.mem_append.mp h with h | h
  · exact in_wsL_law0_r45 w h
  rcases List.mem_append.mp h with h | h
  · exact in_wsL_law0_r46 w h
  rcases List.mem_append.mp h with h | h
  · exact in_wsL_law0_r47 w h
  rcases List.mem_append.mp h with h | h
  · exact in_wsL_law0_r48 w h
  rcases List.mem_append.mp h with h | h
  · exact in_wsL_law0_r49 w h
  rcases List.mem_append.mp h with h | h
  · exact in_wsL_law0_r50 w h
  rcases List.mem_append.mp h with h | h
  · exact in_wsL_law0_r51 w h
  exact in_wsL_law0_r52 w h
set_option maxRecDepth 20000 in
theorem wsL_law_in0 : ∀ w ∈ wsL_law0, w ∈ lw_tbl := by
  intro w h
  rcases List.mem_append.mp h with h | h
  rotate_left
  · cases h
  rcases List.mem_append.mp h with h | h
  rotate_left
  · exact in_wsX10 w h
  rcases List.mem_append.mp h with h | h
  rotate_left
  · exact in_wsX70 w h
  rcases List.mem_append.mp h with h | h
  rotate_left
  · exact in_wsX60 w h
  rcases List.mem_append.mp h with h | h
  rotate_left
  · exact in_wsX30 w h
  rcases List.mem_append.mp h with h | h
  rotate_left
  · exact in_wsX50 w h
  rcases List.mem_append.mp h with h | h
  rotate_left
  · exact in_wsX00 w h
  rcases List.mem_append.mp h with h | h
  rotate_left
  · exact in_wsX40 w h
  rcases List.mem_append.mp h with h | h
  rotate_left
  · exact in_wsX20 w h
  rcases List.mem_append.mp h with h | h
  rotate_left
  · exact in_wsX90 w h
  rcases List.mem_append.mp h with h | h
  rotate_left
  · exact in_wsX80 w h
  exact in_wsL_law0_R w h
