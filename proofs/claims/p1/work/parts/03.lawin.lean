set_option maxRecDepth 20000 in
theorem in0_wsL_law0_r1 : ∀ w ∈ wsL_law0_r1, w ∈ lw_tbl := fun w h => (goodIn_r wsL_law0_r1 [86, 87, 57, 799, 800, 59, 503, 88, 89, 90, 91, 92, 93, 94, 109, 96, 110, 98, 111, 100, 112, 102, 113, 104] (by decide +kernel) (by decide +kernel) w h).1
set_option maxRecDepth 20000 in
theorem in0_wsL_law0_r2 : ∀ w ∈ wsL_law0_r2, w ∈ lw_tbl := fun w h => (goodIn_r wsL_law0_r2 [149, 114, 115, 116, 117, 118, 119, 120, 121, 106, 107, 58, 108, 801, 802, 803, 804, 805, 806, 60, 883, 807, 808, 809] (by decide +kernel) (by decide +kernel) w h).1
set_option maxRecDepth 20000 in
theorem in0_wsL_law0_r3 : ∀ w ∈ wsL_law0_r3, w ∈ lw_tbl := fun w h => (goodIn_r wsL_law0_r3 [810, 811, 812, 63, 840, 842, 844, 846, 837, 848, 850, 852, 838, 881, 854, 856, 813, 814, 815, 823, 825, 816, 817, 62] (by decide +kernel) (by decide +kernel) w h).1
set_option maxRecDepth 20000 in
theorem in0_wsL_law0_r4 : ∀ w ∈ wsL_law0_r4, w ∈ lw_tbl := fun w h => (goodIn_r wsL_law0_r4 [818, 827, 819, 820, 61, 821, 822, 433, 434, 56, 435, 436, 438, 439, 440, 441, 239, 67, 443, 68, 334, 69, 460, 461] (by decide +kernel) (by decide +kernel) w h).1
set_option maxRecDepth 20000 in
theorem in0_wsL_law0_r5 : ∀ w ∈ wsL_law0_r5, w ∈ lw_tbl := fun w h => (goodIn_r wsL_law0_r5 [462, 466, 467, 468, 470, 472, 474, 476, 478, 480, 464, 463, 893, 894, 895, 896, 841, 912, 913, 70, 924, 935, 936, 71] (by decide +kernel) (by decide +kernel) w h).1
set_option maxRecDepth 20000 in
theorem in0_wsL_law0_r6 : ∀ w ∈ wsL_law0_r6, w ∈ lw_tbl := fun w h => (goodIn_r wsL_law0_r6 [937, 938, 72, 897, 898, 899, 900, 902, 34, 903, 882, 904, 906, 35, 907, 908, 909, 910, 911, 826, 914, 915, 916, 917] (by decide +kernel) (by decide +kernel) w h).1
set_option maxRecDepth 20000 in
theorem in0_wsL_law0_r7 : ∀ w ∈ wsL_law0_r7, w ∈ lw_tbl := fun w h => (goodIn_r wsL_law0_r7 [918, 923, 920, 919, 939, 940, 941, 942, 943, 944, 945, 946, 956, 957, 958, 959, 966, 960, 963, 977, 978, 979, 980, 828] (by decide +kernel) (by decide +kernel) w h).1
set_option maxRecDepth 20000 in
theorem in0_wsL_law0_r8 : ∀ w ∈ wsL_law0_r8, w ∈ lw_tbl := fun w h => (goodIn_r wsL_law0_r8 [829, 981, 983, 36, 984, 985, 987, 37, 988, 989, 991, 38, 992, 1036, 997, 74, 998, 1037, 993, 994, 73, 995, 996, 999] (by decide +kernel) (by decide +kernel) w h).1
set_option maxRecDepth 20000 in
theorem in0_wsL_law0_r9 : ∀ w ∈ wsL_law0_r9, w ∈ lw_tbl := fun w h => (goodIn_r wsL_law0_r9 [1000, 1001, 1002, 1003, 1004, 1005, 1006, 1480, 1007, 1025, 1026, 1027, 1028, 1029, 1031, 1032, 1033, 1034, 1035, 411, 410, 75, 889, 890] (by decide +kernel) (by decide +kernel) w h).1
set_option maxRecDepth 20000 in
theorem in0_wsL_law0_r10 : ∀ w ∈ wsL_law0_r10, w ∈ lw_tbl := fun w h => (goodIn_r wsL_law0_r10 [891, 892, 504, 505, 506, 507, 508, 509, 510, 511, 311, 313, 15, 314, 315, 76, 512, 513, 514, 333, 16, 335, 336, 338] (by decide +kernel) (by decide +kernel) w h).1
set_option maxRecDepth 20000 in
theorem in0_wsL_law0_r11 : ∀ w ∈ wsL_law0_r11, w ∈ lw_tbl := fun w h => (goodIn_r wsL_law0_r11 [17, 339, 518, 519, 520, 521, 522, 523, 524, 527, 27, 528, 340, 341, 342, 197, 198, 343, 344, 77, 345, 346, 347, 348] (by decide +kernel) (by decide +kernel) w h).1
set_option maxRecDepth 20000 in
theorem in0_wsL_law0_r12 : ∀ w ∈ wsL_law0_r12, w ∈ lw_tbl := fun w h => (goodIn_r wsL_law0_r12 [1038, 1039, 1040, 1041, 968, 962, 965, 1042, 1044, 39, 1045, 1046, 1048, 40, 1049, 1050, 1051, 1052, 1053, 1055, 41, 1056, 912, 1057] (by decide +kernel) (by decide +kernel) w h).1
set_option maxRecDepth 20000 in
theorem in0_wsL_law0_r13 : ∀ w ∈ wsL_law0_r13, w ∈ lw_tbl := fun w h => (goodIn_r wsL_law0_r13 [1058, 1059, 1060, 1061, 1062, 78, 1063, 1064, 1065, 79, 1066, 1067, 1068, 1069, 1070, 1071, 1072, 1073, 1074, 1077, 1075, 1076, 1078, 1079] (by decide +kernel) (by decide +kernel) w h).1
set_option maxRecDepth 20000 in
theorem in0_wsL_law0_r14 : ∀ w ∈ wsL_law0_r14, w ∈ lw_tbl := fun w h => (goodIn_r wsL_law0_r14 [1080, 1081, 529, 530, 531, 532, 533, 534, 535, 539, 28, 540, 1082, 1083, 1084, 1085, 927, 1086, 1087, 1088, 1089, 1092, 1287, 1293] (by decide +kernel) (by decide +kernel) w h).1
set_option maxRecDepth 20000 in
theorem in0_wsL_law0_r15 : ∀ w ∈ wsL_law0_r15, w ∈ lw_tbl := fun w h => (goodIn_r wsL_law0_r15 [1090, 1091, 1093, 1094, 1095, 1096, 1097, 1098, 1099, 85, 1100, 1281, 1101, 1102, 1103, 1104, 1105, 1279, 1284, 926, 1106, 1107, 1108, 1109] (by decide +kernel) (by decide +kernel) w h).1
set_option maxRecDepth 20000 in
theorem in0_wsL_law0_r16 : ∀ w ∈ wsL_law0_r16, w ∈ lw_tbl := fun w h => (goodIn_r wsL_law0_r16 [967, 1110, 1111, 1112, 1113, 1114, 1115, 1116, 1117, 1118, 964, 1119, 1120, 1121, 1122, 1123, 1124, 1125, 1126, 1127, 1128, 1129, 1130, 1131] (by decide +kernel) (by decide +kernel) w h).1
set_option maxRecDepth 20000 in
theorem in0_wsL_law0_r17 : ∀ w ∈ wsL_law0_r17, w ∈ lw_tbl := fun w h => (goodIn_r wsL_law0_r17 [1132, 1133, 1134, 1135, 1136, 1137, 1138, 1139, 1140, 1141, 1142, 1143, 1144, 1145, 921, 961, 1128, 1146, 1147, 1148, 541, 542, 543, 544] (by decide +kernel) (by decide +kernel) w h).1
set_option maxRecDepth 20000 in
theorem in0_wsL_law0_r18 : ∀ w ∈ wsL_law0_r18, w ∈ lw_tbl := fun w h => (goodIn_r wsL_law0_r18 [545, 546, 547, 182, 184, 6, 185, 186, 188, 7, 189, 163, 164, 165, 1149, 1150, 1151, 1152, 1153, 548, 549, 550, 551, 552] (by decide +kernel) (by decide +kernel) w h).1
set_option maxRecDepth 20000 in
theorem in0_wsL_law0_r19 : ∀ w ∈ wsL_law0_r19, w ∈ lw_tbl := fun w h => (goodIn_r wsL_law0_r19 [553, 554, 376, 378, 20, 379, 382, 21, 383, 556, 558, 29, 559, 166, 168, 2, 169, 170, 172, 3, 173, 174, 176, 4] (by decide +kernel) (by decide +kernel) w h).1
set_option maxRecDepth 20000 in
theorem in0_wsL_law0_r20 : ∀ w ∈ wsL_law0_r20, w ∈ lw_tbl := fun w h => (goodIn_r wsL_law0_r20 [177, 178, 180, 5, 181, 190, 192, 8, 193, 194, 195, 196, 199, 201, 9, 202, 203, 204, 80, 205, 206, 207, 208, 1154] (by decide +kernel) (by decide +kernel) w h).1
set_option maxRecDepth 20000 in
theorem in0_wsL_law0_r21 : ∀ w ∈ wsL_law0_r21, w ∈ lw_tbl := fun w h => (goodIn_r wsL_law0_r21 [1155, 1156, 1157, 1158, 1159, 1160, 1161, 969, 1162, 1163, 1164, 1165, 1166, 1167, 560, 561, 562, 563, 564, 565, 566, 569, 81, 571] (by decide +kernel) (by decide +kernel) w h).1
set_option maxRecDepth 20000 in
theorem in0_wsL_law0_r22 : ∀ w ∈ wsL_law0_r22, w ∈ lw_tbl := fun w h => (goodIn_r wsL_law0_r22 [572, 573, 574, 576, 578, 1168, 1169, 1170, 1171, 843, 587, 588, 589, 590, 308, 309, 310, 349, 351, 18, 352, 353, 355, 19] (by decide +kernel) (by decide +kernel) w h).1
set_option maxRecDepth 20000 in
theorem in0_wsL_law0_r23 : ∀ w ∈ wsL_law0_r23, w ∈ lw_tbl := fun w h => (goodIn_r wsL_law0_r23 [356, 1172, 1173, 1174, 1175, 1176, 1178, 42, 1179, 922, 1180, 1181, 1182, 1183, 1184, 1185, 591, 592, 593, 594, 359, 360, 361, 1186] (by decide +kernel) (by decide +kernel) w h).1
set_option maxRecDepth 20000 in
theorem in0_wsL_law0_r24 : ∀ w ∈ wsL_law0_r24, w ∈ lw_tbl := fun w h => (goodIn_r wsL_law0_r24 [1187, 1188, 1189, 935, 595, 596, 597, 598, 599, 600, 601, 1190, 1191, 1192, 1193, 1194, 603, 604, 605, 606, 607, 608, 609, 620] (by decide +kernel) (by decide +kernel) w h).1
set_option maxRecDepth 20000 in
theorem in0_wsL_law0_r25 : ∀ w ∈ wsL_law0_r25, w ∈ lw_tbl := fun w h => (goodIn_r wsL_law0_r25 [82, 610, 612, 30, 613, 615, 617, 31, 618, 622, 623, 624, 628, 630, 626, 625, 639, 641, 32, 642, 1195, 1196, 1197, 1198] (by decide +kernel) (by decide +kernel) w h).1
set_option maxRecDepth 20000 in
theorem in0_wsL_law0_r26 : ∀ w ∈ wsL_law0_r26, w ∈ lw_tbl := fun w h => (goodIn_r wsL_law0_r26 [847, 845, 859, 1199, 1201, 43, 1202, 643, 644, 645, 646, 647, 648, 649, 368, 369, 370, 412, 413, 414, 1203, 1204, 1205, 1206] (by decide +kernel) (by decide +kernel) w h).1
set_option maxRecDepth 20000 in
theorem in0_wsL_law0_r27 : ∀ w ∈ wsL_law0_r27, w ∈ lw_tbl := fun w h => (goodIn_r wsL_law0_r27 [1207, 1208, 1209, 1210, 1211, 1212, 1213, 1214, 1215, 1216, 1217, 652, 653, 654, 655, 365, 366, 367, 1218, 1219, 1220, 1221, 849, 656] (by decide +kernel) (by decide +kernel) w h).1
set_option maxRecDepth 20000 in
theorem in0_wsL_law0_r28 : ∀ w ∈ wsL_law0_r28, w ∈ lw_tbl := fun w h => (goodIn_r wsL_law0_r28 [657, 658, 659, 402, 403, 404, 1222, 1223, 1224, 1225, 1226, 1227, 1228, 1229, 858, 1230, 660, 661, 662, 663, 664, 665, 666, 668] (by decide +kernel) (by decide +kernel) w h).1
set_option maxRecDepth 20000 in
theorem in0_wsL_law0_r29 : ∀ w ∈ wsL_law0_r29, w ∈ lw_tbl := fun w h => (goodIn_r wsL_law0_r29 [83, 670, 671, 672, 677, 673, 675, 1231, 1232, 1233, 1234, 851, 853, 686, 687, 688, 689, 690, 691, 692, 388, 390, 22, 391] (by decide +kernel) (by decide +kernel) w h).1
set_option maxRecDepth 20000 in
theorem in0_wsL_law0_r30 : ∀ w ∈ wsL_law0_r30, w ∈ lw_tbl := fun w h => (goodIn_r wsL_law0_r30 [1235, 1236, 1237, 1238, 1243, 1239, 1241, 44, 1242, 694, 695, 696, 697, 385, 386, 387, 1244, 1245, 1246, 1247, 698, 699, 700, 701] (by decide +kernel) (by decide +kernel) w h).1
set_option maxRecDepth 20000 in
theorem in0_wsL_law0_r31 : ∀ w ∈ wsL_law0_r31, w ∈ lw_tbl := fun w h => (goodIn_r wsL_law0_r31 [702, 703, 704, 705, 707, 33, 708, 1248, 1249, 1250, 1251, 1252, 1254, 45, 1255, 1256, 710, 711, 712, 713, 714, 715, 716, 1257] (by decide +kernel) (by decide +kernel) w h).1
set_option maxRecDepth 20000 in
theorem in0_wsL_law0_r32 : ∀ w ∈ wsL_law0_r32, w ∈ lw_tbl := fun w h => (goodIn_r wsL_law0_r32 [1258, 1259, 1260, 855, 717, 718, 719, 720, 721, 722, 723, 1261, 1262, 1263, 1264, 1265, 724, 725, 726, 727, 728, 729, 730, 157] (by decide +kernel) (by decide +kernel) w h).1
set_option maxRecDepth 20000 in
theorem in0_wsL_law0_r33 : ∀ w ∈ wsL_law0_r33, w ∈ lw_tbl := fun w h => (goodIn_r wsL_law0_r33 [84, 734, 735, 736, 737, 744, 746, 748, 738, 740, 742, 1266, 1267, 1268, 1269, 857, 1270, 1271, 1272, 1273, 1274, 1275, 1276, 1283] (by decide +kernel) (by decide +kernel) w h).1
set_option maxRecDepth 20000 in
theorem in0_wsL_law0_r34 : ∀ w ∈ wsL_law0_r34, w ∈ lw_tbl := fun w h => (goodIn_r wsL_law0_r34 [1286, 1278, 1289, 1277, 763, 764, 765, 766, 767, 768, 769, 423, 425, 25, 426, 1308, 1309, 1310, 1311, 1270, 1288, 1285, 1312, 1314] (by decide +kernel) (by decide +kernel) w h).1
set_option maxRecDepth 20000 in
theorem in0_wsL_law0_r35 : ∀ w ∈ wsL_law0_r35, w ∈ lw_tbl := fun w h => (goodIn_r wsL_law0_r35 [46, 1315, 771, 772, 773, 774, 775, 776, 777, 417, 24, 418, 1316, 1317, 1318, 1319, 1291, 1320, 1321, 1322, 1323, 1324, 1325, 1326] (by decide +kernel) (by decide +kernel) w h).1
set_option maxRecDepth 20000 in
theorem in0_wsL_law0_r36 : ∀ w ∈ wsL_law0_r36, w ∈ lw_tbl := fun w h => (goodIn_r wsL_law0_r36 [1327, 150, 151, 152, 153, 156, 0, 158, 159, 161, 1, 162, 1328, 1329, 1330, 1331, 1332, 1333, 1334, 1335, 1290, 779, 780, 781] (by decide +kernel) (by decide +kernel) w h).1
set_option maxRecDepth 20000 in
theorem in0_wsL_law0_r37 : ∀ w ∈ wsL_law0_r37, w ∈ lw_tbl := fun w h => (goodIn_r wsL_law0_r37 [782, 420, 421, 422, 428, 430, 26, 431, 1336, 1337, 1338, 1339, 1340, 1342, 47, 1343, 1280, 1282, 1294, 1344, 1345, 783, 784, 785] (by decide +kernel) (by decide +kernel) w h).1
set_option maxRecDepth 20000 in
theorem in0_wsL_law0_r38 : ∀ w ∈ wsL_law0_r38, w ∈ lw_tbl := fun w h => (goodIn_r wsL_law0_r38 [786, 220, 221, 222, 223, 225, 10, 226, 227, 229, 11, 230, 231, 233, 12, 234, 235, 237, 13, 238, 1346, 1347, 1348, 1349] (by decide +kernel) (by decide +kernel) w h).1
set_option maxRecDepth 20000 in
theorem in0_wsL_law0_r39 : ∀ w ∈ wsL_law0_r39, w ∈ lw_tbl := fun w h => (goodIn_r wsL_law0_r39 [1350, 1352, 48, 1353, 1354, 1356, 49, 1357, 1358, 1360, 50, 1361, 1362, 1364, 51, 1365, 1366, 1368, 52, 1369, 209, 210, 211, 212] (by decide +kernel) (by decide +kernel) w h).1
set_option maxRecDepth 20000 in
theorem in0_wsL_law0_r40 : ∀ w ∈ wsL_law0_r40, w ∈ lw_tbl := fun w h => (goodIn_r wsL_law0_r40 [1370, 1371, 1372, 1373, 1374, 1375, 1376, 1377, 787, 788, 789, 790, 373, 374, 375, 1378, 1379, 1380, 1381, 1382, 1384, 53, 1385, 1386] (by decide +kernel) (by decide +kernel) w h).1
set_option maxRecDepth 20000 in
theorem in0_wsL_law0_r41 : ∀ w ∈ wsL_law0_r41, w ∈ lw_tbl := fun w h => (goodIn_r wsL_law0_r41 [1387, 1388, 1389, 1390, 1421, 1422, 1423, 1424, 1425, 1427, 1391, 1392, 1393, 1394, 1395, 1396, 925, 1397, 1398, 1399, 1400, 1401, 1402, 1403] (by decide +kernel) (by decide +kernel) w h).1
set_option maxRecDepth 20000 in
theorem in0_wsL_law0_r42 : ∀ w ∈ wsL_law0_r42, w ∈ lw_tbl := fun w h => (goodIn_r wsL_law0_r42 [1404, 1405, 1406, 1407, 1408, 1409, 1420, 1411, 1415, 1417, 1419, 1428, 1429, 1430, 1431, 1432, 1292, 1433, 791, 792, 793, 794, 394, 395] (by decide +kernel) (by decide +kernel) w h).1
set_option maxRecDepth 20000 in
theorem in0_wsL_law0_r43 : ∀ w ∈ wsL_law0_r43, w ∈ lw_tbl := fun w h => (goodIn_r wsL_law0_r43 [396, 397, 399, 23, 400, 1434, 1435, 1436, 1437, 1438, 1440, 54, 1441, 795, 796, 797, 798, 406, 407, 408, 409, 1442, 1443, 1444] (by decide +kernel) (by decide +kernel) w h).1
set_option maxRecDepth 20000 in
theorem in0_wsL_law0_r44 : ∀ w ∈ wsL_law0_r44, w ∈ lw_tbl := fun w h => (goodIn_r wsL_law0_r44 [1445, 1446, 1448, 55, 1449, 1450, 213, 214, 215, 216, 217, 218, 219, 307, 358, 364, 372, 384, 393, 401, 405, 419, 1451, 1452] (by decide +kernel) (by decide +kernel) w h).1
set_option maxRecDepth 20000 in
theorem in0_wsL_law0_r45 : ∀ w ∈ wsL_law0_r45, w ∈ lw_tbl := fun w h => (goodIn_r wsL_law0_r45 [1453, 1454, 1455, 1456, 1457, 1458, 1459] (by decide +kernel) (by decide +kernel) w h).1
set_option maxRecDepth 20000 in
theorem in0_wsX50 : ∀ w ∈ wsX50, w ∈ lw_tbl := fun w h => (goodIn_r wsX50 [122, 124, 126, 128, 130, 132, 134, 136, 138, 140, 142, 144, 146] (by decide +kernel) (by decide +kernel) w h).1
set_option maxRecDepth 20000 in
theorem in0_wsX110 : ∀ w ∈ wsX110, w ∈ lw_tbl := fun w h => (goodIn_r wsX110 [884, 886] (by decide +kernel) (by decide +kernel) w h).1
set_option maxRecDepth 20000 in
theorem in0_wsX60 : ∀ w ∈ wsX60, w ∈ lw_tbl := fun w h => (goodIn_r wsX60 [860, 862, 864, 866, 868, 870, 872, 874, 876, 878] (by decide +kernel) (by decide +kernel) w h).1
set_option maxRecDepth 20000 in
theorem in0_wsJx4a65c0 : ∀ w ∈ wsJx4a65c0, w ∈ lw_tbl := fun w h => (goodIn_r wsJx4a65c0 [834, 830, 832] (by decide +kernel) (by decide +kernel) w h).1
set_option maxRecDepth 20000 in
theorem in0_wsX30 : ∀ w ∈ wsX30, w ∈ lw_tbl := fun w h => (goodIn_r wsX30 [482, 484, 486, 488, 490, 492, 494, 496, 498, 500] (by decide +kernel) (by decide +kernel) w h).1
set_option maxRecDepth 20000 in
theorem in0_wsX100 : ∀ w ∈ wsX100, w ∈ lw_tbl := fun w h => (goodIn_r wsX100 [928, 930, 932] (by decide +kernel) (by decide +kernel) w h).1
set_option maxRecDepth 20000 in
theorem in0_wsX90 : ∀ w ∈ wsX90, w ∈ lw_tbl := fun w h => (goodIn_r wsX90 [970, 972, 974] (by decide +kernel) (by decide +kernel) w h).1
set_option maxRecDepth 20000 in
theorem in0_wsX80 : ∀ w ∈ wsX80, w ∈ lw_tbl := fun w h => (goodIn_r wsX80 [947, 949, 951, 953] (by decide +kernel) (by decide +kernel) w h).1
set_option maxRecDepth 20000 in
theorem in0_wsX70 : ∀ w ∈ wsX70, w ∈ lw_tbl := fun w h => (goodIn_r wsX70 [1295, 1297, 1299, 1301, 1303, 1305] (by decide +kernel) (by decide +kernel) w h).1
set_option maxRecDepth 20000 in
theorem in0_wsX10 : ∀ w ∈ wsX10, w ∈ lw_tbl := fun w h => (goodIn_r wsX10 [580, 582, 584] (by decide +kernel) (by decide +kernel) w h).1
set_option maxRecDepth 20000 in
theorem in0_wsX00 : ∀ w ∈ wsX00, w ∈ lw_tbl := fun w h => (goodIn_r wsX00 [679, 681, 683] (by decide +kernel) (by decide +kernel) w h).1
set_option maxRecDepth 20000 in
theorem in0_wsX40 : ∀ w ∈ wsX40, w ∈ lw_tbl := fun w h => (goodIn_r wsX40 [750, 752, 754, 756, 758, 760] (by decide +kernel) (by decide +kernel) w h).1
set_option maxRecDepth 20000 in
theorem in0_wsX20 : ∀ w ∈ wsX20, w ∈ lw_tbl := fun w h => (goodIn_r wsX20 [632, 634, 636] (by decide +kernel) (by decide +kernel) w h).1
theorem wsL_law_in0 : ∀ w ∈ wsL_law0, w ∈ lw_tbl := fun w h => (List.mem_append.mp h).elim (fun h => (List.mem_append.mp h).elim (fun h => (List.mem_append.mp h).elim (fun h => (List.mem_append.mp h).elim (fun h => (List.mem_append.mp h).elim (fun h => (List.mem_append.mp h).elim (fun h => (List.mem_append.mp h).elim (fun h => (List.mem_append.mp h).elim (fun h => (List.mem_append.mp h).elim (fun h => (List.mem_append.mp h).elim (fun h => (List.mem_append.mp h).elim (fun h => (List.mem_append.mp h).elim (fun h => (List.mem_append.mp h).elim (fun h => (List.mem_append.mp h).elim (fun h => (List.mem_append.mp h).elim (fun h => in0_wsL_law0_r1 w h) (fun h => (List.mem_append.mp h).elim (fun h => in0_wsL_law0_r2 w h) (fun h => (List.mem_append.mp h).elim (fun h => in0_wsL_law0_r3 w h) (fun h => (List.mem_append.mp h).elim (fun h => in0_wsL_law0_r4 w h) (fun h => (List.mem_append.mp h).elim (fun h => in0_wsL_law0_r5 w h) (fun h => (List.mem_append.mp h).elim (fun h => in0_wsL_law0_r6 w h) (fun h => (List.mem_append.mp h).elim (fun h => in0_wsL_law0_r7 w h) (fun h => (List.mem_append.mp h).elim (fun h => in0_wsL_law0_r8 w h) (fun h => (List.mem_append.mp h).elim (fun h => in0_wsL_law0_r9 w h) (fun h => (List.mem_append.mp h).elim (fun h => in0_wsL_law0_r10 w h) (fun h => (List.mem_append.mp h).elim (fun h => in0_wsL_law0_r11 w h) (fun h => (List.mem_append.mp h).elim (fun h => in0_wsL_law0_r12 w h) (fun h => (List.mem_append.mp h).elim (fun h => in0_wsL_law0_r13 w h) (fun h => (List.mem_append.mp h).elim (fun h => in0_wsL_law0_r14 w h) (fun h => (List.mem_append.mp h).elim (fun h => in0_wsL_law0_r15 w h) (fun h => (List.mem_append.mp h).elim (fun h => in0_wsL_law0_r16 w h) (fun h => (List.mem_append.mp h).elim (fun h => in0_wsL_law0_r17 w h) (fun h => (List.mem_append.mp h).elim (fun h => in0_wsL_law0_r18 w h) (fun h => (List.mem_append.mp h).elim (fun h => in0_wsL_law0_r19 w h) (fun h => (List.mem_append.mp h).elim (fun h => in0_wsL_law0_r20 w h) (fun h => (List.mem_append.mp h).elim (fun h => in0_wsL_law0_r21 w h) (fun h => (List.mem_append.mp h).elim (fun h => in0_wsL_law0_r22 w h) (fun h => (List.mem_append.mp h).elim (fun h => in0_wsL_law0_r23 w h) (fun h => (List.mem_append.mp h).elim (fun h => in0_wsL_law0_r24 w h) (fun h => (List.mem_append.mp h).elim (fun h => in0_wsL_law0_r25 w h) (fun h => (List.mem_append.mp h).elim (fun h => in0_wsL_law0_r26 w h) (fun h => (List.mem_append.mp h).elim (fun h => in0_wsL_law0_r27 w h) (fun h => (List.mem_append.mp h).elim (fun h => in0_wsL_law0_r28 w h) (fun h => (List.mem_append.mp h).elim (fun h => in0_wsL_law0_r29 w h) (fun h => (List.mem_append.mp h).elim (fun h => in0_wsL_law0_r30 w h) (fun h => (List.mem_append.mp h).elim (fun h => in0_wsL_law0_r31 w h) (fun h => (List.mem_append.mp h).elim (fun h => in0_wsL_law0_r32 w h) (fun h => (List.mem_append.mp h).elim (fun h => in0_wsL_law0_r33 w h) (fun h => (List.mem_append.mp h).elim (fun h => in0_wsL_law0_r34 w h) (fun h => (List.mem_append.mp h).elim (fun h => in0_wsL_law0_r35 w h) (fun h => (List.mem_append.mp h).elim (fun h => in0_wsL_law0_r36 w h) (fun h => (List.mem_append.mp h).elim (fun h => in0_wsL_law0_r37 w h) (fun h => (List.mem_append.mp h).elim (fun h => in0_wsL_law0_r38 w h) (fun h => (List.mem_append.mp h).elim (fun h => in0_wsL_law0_r39 w h) (fun h => (List.mem_append.mp h).elim (fun h => in0_wsL_law0_r40 w h) (fun h => (List.mem_append.mp h).elim (fun h => in0_wsL_law0_r41 w h) (fun h => (List.mem_append.mp h).elim (fun h => in0_wsL_law0_r42 w h) (fun h => (List.mem_append.mp h).elim (fun h => in0_wsL_law0_r43 w h) (fun h => (List.mem_append.mp h).elim (fun h => in0_wsL_law0_r44 w h) (fun h => in0_wsL_law0_r45 w h))))))))))))))))))))))))))))))))))))))))))))) (fun h => in0_wsX50 w h)) (fun h => in0_wsX110 w h)) (fun h => in0_wsX60 w h)) (fun h => in0_wsJx4a65c0 w h)) (fun h => in0_wsX30 w h)) (fun h => in0_wsX100 w h)) (fun h => in0_wsX90 w h)) (fun h => in0_wsX80 w h)) (fun h => in0_wsX70 w h)) (fun h => in0_wsX10 w h)) (fun h => in0_wsX00 w h)) (fun h => in0_wsX40 w h)) (fun h => in0_wsX20 w h)) (fun h => (absurd h List.not_mem_nil))
