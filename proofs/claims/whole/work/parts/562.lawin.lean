theorem in_wsX80 : GoodIn lw_tbl wsX80 := goodIn_r _ [289, 291, 293, 295, 297, 299] (by decide +kernel) (by decide +kernel)
theorem in_wsX90 : GoodIn lw_tbl wsX90 := goodIn_r _ [1099, 1101, 1103, 1105, 1107, 1109, 1111, 1113, 1115, 1117, 1119] (by decide +kernel) (by decide +kernel)
theorem in_wsX60 : GoodIn lw_tbl wsX60 := goodIn_r _ [130, 132, 134, 136, 138, 140, 142] (by decide +kernel) (by decide +kernel)
theorem in_wsX50 : GoodIn lw_tbl wsX50 := goodIn_r _ [244, 246, 248, 250, 252, 254, 256, 258, 260] (by decide +kernel) (by decide +kernel)
theorem in_wsX20 : GoodIn lw_tbl wsX20 := goodIn_r _ [276, 278, 280] (by decide +kernel) (by decide +kernel)
theorem in_wsX70 : GoodIn lw_tbl wsX70 := goodIn_r _ [178, 180, 182, 184, 186, 188] (by decide +kernel) (by decide +kernel)
theorem in_wsX00 : GoodIn lw_tbl wsX00 := goodIn_r _ [201, 203, 205] (by decide +kernel) (by decide +kernel)
theorem in_wsX10 : GoodIn lw_tbl wsX10 := goodIn_r _ [215] (by decide +kernel) (by decide +kernel)
set_option maxRecDepth 20000 in
theorem in_wsL_law0_r1 : GoodIn lw_tbl wsL_law0_r1 := goodIn_r _ [104, 105, 81, 1079, 1080, 89, 1434, 1433, 106, 107, 108, 109, 110, 111, 112, 113, 82, 283, 146, 147, 83, 284, 285, 263] (by decide +kernel) (by decide +kernel)
set_option maxRecDepth 20000 in
theorem in_wsL_law0_r2 : GoodIn lw_tbl wsL_law0_r2 := goodIn_r _ [264, 88, 286, 287, 302, 288, 115, 116, 117, 145, 118, 149, 150, 151, 152, 153, 84, 223, 191, 192, 85, 227, 208, 209] (by decide +kernel) (by decide +kernel)
set_option maxRecDepth 20000 in
theorem in_wsL_law0_r3 : GoodIn lw_tbl wsL_law0_r3 := goodIn_r _ [86, 229, 231, 234, 220, 222, 221, 87, 155, 156, 157, 158, 161, 164, 168, 171, 194, 195, 196, 197, 198, 199, 211, 212] (by decide +kernel) (by decide +kernel)
set_option maxRecDepth 20000 in
theorem in_wsL_law0_r4 : GoodIn lw_tbl wsL_law0_r4 := goodIn_r _ [213, 214, 266, 267, 268, 269, 272, 1081, 1082, 1083, 1084, 1089, 1091, 1092, 1093, 1095, 1096, 1085, 1086, 1087, 456, 457, 80, 458] (by decide +kernel) (by decide +kernel)
set_option maxRecDepth 20000 in
theorem in_wsL_law0_r5 : GoodIn lw_tbl wsL_law0_r5 := goodIn_r _ [459, 460, 461, 462, 463, 464, 465, 93, 528, 94, 545, 15, 546, 119, 1126, 1127, 1128, 1129, 1130, 1090, 1131, 1132, 1133, 1134] (by decide +kernel) (by decide +kernel)
set_option maxRecDepth 20000 in
theorem in_wsL_law0_r6 : GoodIn lw_tbl wsL_law0_r6 := goodIn_r _ [1136, 73, 1137, 1088, 1122, 1123, 1124, 1125, 303, 304, 305, 306, 1138, 1139, 1140, 1141, 307, 308, 309, 310, 313, 0, 314, 129] (by decide +kernel) (by decide +kernel)
set_option maxRecDepth 20000 in
theorem in_wsL_law0_r7 : GoodIn lw_tbl wsL_law0_r7 := goodIn_r _ [315, 317, 1, 318, 121, 319, 320, 321, 329, 330, 331, 95, 332, 1436, 333, 334, 335, 336, 337, 338, 339, 340, 341, 1437] (by decide +kernel) (by decide +kernel)
set_option maxRecDepth 20000 in
theorem in_wsL_law0_r8 : GoodIn lw_tbl wsL_law0_r8 := goodIn_r _ [343, 344, 345, 346, 347, 348, 349, 350, 351, 352, 96, 353, 354, 355, 356, 357, 359, 360, 97, 361, 362, 363, 98, 364] (by decide +kernel) (by decide +kernel)
set_option maxRecDepth 20000 in
theorem in_wsL_law0_r9 : GoodIn lw_tbl wsL_law0_r9 := goodIn_r _ [365, 366, 367, 368, 369, 370, 371, 372, 373, 374, 375, 377, 379, 381, 383, 2, 384, 385, 386, 387, 388, 389, 390, 391] (by decide +kernel) (by decide +kernel)
set_option maxRecDepth 20000 in
theorem in_wsL_law0_r10 : GoodIn lw_tbl wsL_law0_r10 := goodIn_r _ [392, 393, 394, 396, 3, 397, 123, 125, 127, 1142, 1143, 1144, 1145, 1146, 1148, 74, 1149, 1098, 1097, 1150, 1152, 75, 1153, 1154] (by decide +kernel) (by decide +kernel)
set_option maxRecDepth 20000 in
theorem in_wsL_law0_r11 : GoodIn lw_tbl wsL_law0_r11 := goodIn_r _ [1156, 76, 1157, 1158, 1159, 1160, 1161, 1268, 1162, 1163, 1164, 1173, 1165, 1166, 1167, 1168, 1169, 1170, 1171, 1172, 1174, 1175, 1176, 1177] (by decide +kernel) (by decide +kernel)
set_option maxRecDepth 20000 in
theorem in_wsL_law0_r12 : GoodIn lw_tbl wsL_law0_r12 := goodIn_r _ [1178, 1179, 1180, 1181, 1182, 1186, 1183, 1184, 1185, 1187, 1188, 1189, 1190, 1191, 1192, 1193, 1194, 1195, 1196, 1197, 1198, 1199, 1200, 1201] (by decide +kernel) (by decide +kernel)
set_option maxRecDepth 20000 in
theorem in_wsL_law0_r13 : GoodIn lw_tbl wsL_law0_r13 := goodIn_r _ [1202, 1203, 1204, 1205, 1206, 1207, 1208, 1209, 1210, 1211, 1212, 1213, 1214, 1215, 1216, 1217, 1218, 1219, 1220, 1221, 1222, 1223, 1224, 1225] (by decide +kernel) (by decide +kernel)
set_option maxRecDepth 20000 in
theorem in_wsL_law0_r14 : GoodIn lw_tbl wsL_law0_r14 := goodIn_r _ [1226, 1227, 1228, 1229, 1230, 1231, 1232, 1233, 1234, 1235, 1236, 1237, 1238, 1239, 1240, 1241, 1242, 1243, 1244, 1245, 1246, 1247, 1248, 1249] (by decide +kernel) (by decide +kernel)
set_option maxRecDepth 20000 in
theorem in_wsL_law0_r15 : GoodIn lw_tbl wsL_law0_r15 := goodIn_r _ [1250, 1251, 1252, 1253, 1254, 1255, 1256, 1257, 1258, 1259, 1260, 1261, 1262, 1263, 1264, 1265, 1266, 1267, 1269, 1270, 1271, 547, 548, 549] (by decide +kernel) (by decide +kernel)
set_option maxRecDepth 20000 in
theorem in_wsL_law0_r16 : GoodIn lw_tbl wsL_law0_r16 := goodIn_r _ [550, 551, 552, 553, 556, 16, 557, 236, 238, 240, 242, 560, 17, 561, 564, 18, 565, 568, 19, 569, 274, 570, 572, 20] (by decide +kernel) (by decide +kernel)
set_option maxRecDepth 20000 in
theorem in_wsL_law0_r17 : GoodIn lw_tbl wsL_law0_r17 := goodIn_r _ [573, 575, 577, 21, 578, 581, 22, 582, 584, 585, 424, 425, 588, 23, 589, 176, 590, 592, 24, 593, 411, 413, 6, 414] (by decide +kernel) (by decide +kernel)
set_option maxRecDepth 20000 in
theorem in_wsL_law0_r18 : GoodIn lw_tbl wsL_law0_r18 := goodIn_r _ [596, 25, 597, 599, 600, 409, 5, 410, 603, 26, 604, 443, 445, 12, 446, 449, 451, 13, 452, 453, 454, 99, 455, 605] (by decide +kernel) (by decide +kernel)
set_option maxRecDepth 20000 in
theorem in_wsL_law0_r19 : GoodIn lw_tbl wsL_law0_r19 := goodIn_r _ [607, 27, 608, 612, 28, 613, 616, 29, 617, 407, 620, 30, 621, 622, 624, 31, 625, 626, 628, 32, 629, 632, 33, 633] (by decide +kernel) (by decide +kernel)
set_option maxRecDepth 20000 in
theorem in_wsL_law0_r20 : GoodIn lw_tbl wsL_law0_r20 := goodIn_r _ [634, 635, 100, 636, 637, 638, 639, 642, 34, 643, 645, 646, 649, 35, 650, 653, 36, 654, 657, 37, 658, 659, 660, 661] (by decide +kernel) (by decide +kernel)
set_option maxRecDepth 20000 in
theorem in_wsL_law0_r21 : GoodIn lw_tbl wsL_law0_r21 := goodIn_r _ [666, 38, 667, 670, 39, 671, 1272, 1273, 1274, 1275, 1094, 1276, 1277, 1278, 672, 673, 674, 675, 676, 677, 678, 681, 40, 682] (by decide +kernel) (by decide +kernel)
set_option maxRecDepth 20000 in
theorem in_wsL_law0_r22 : GoodIn lw_tbl wsL_law0_r22 := goodIn_r _ [685, 41, 686, 689, 42, 690, 693, 43, 694, 697, 44, 698, 699, 428, 8, 429, 430, 432, 9, 433, 1279, 1280, 1281, 1282] (by decide +kernel) (by decide +kernel)
set_option maxRecDepth 20000 in
theorem in_wsL_law0_r23 : GoodIn lw_tbl wsL_law0_r23 := goodIn_r _ [1283, 1284, 1285, 1286, 1287, 1288, 1289, 1290, 1291, 700, 701, 702, 703, 704, 705, 706, 707, 709, 101, 1292, 1293, 1294, 1295, 1296] (by decide +kernel) (by decide +kernel)
set_option maxRecDepth 20000 in
theorem in_wsL_law0_r24 : GoodIn lw_tbl wsL_law0_r24 := goodIn_r _ [725, 726, 727, 728, 729, 730, 731, 732, 735, 45, 736, 739, 46, 740, 743, 47, 744, 437, 10, 438, 1297, 1298, 1299, 1300] (by decide +kernel) (by decide +kernel)
set_option maxRecDepth 20000 in
theorem in_wsL_law0_r25 : GoodIn lw_tbl wsL_law0_r25 := goodIn_r _ [1301, 747, 748, 749, 750, 751, 752, 753, 754, 755, 1302, 1303, 1304, 1305, 757, 758, 759, 760, 761, 762, 763, 766, 48, 767] (by decide +kernel) (by decide +kernel)
set_option maxRecDepth 20000 in
theorem in_wsL_law0_r26 : GoodIn lw_tbl wsL_law0_r26 := goodIn_r _ [768, 770, 49, 771, 775, 50, 776, 1306, 1307, 1308, 1309, 777, 778, 779, 780, 781, 782, 783, 784, 785, 786, 1310, 1311, 1312] (by decide +kernel) (by decide +kernel)
set_option maxRecDepth 20000 in
theorem in_wsL_law0_r27 : GoodIn lw_tbl wsL_law0_r27 := goodIn_r _ [1313, 787, 788, 789, 790, 791, 792, 793, 796, 51, 797, 273, 800, 52, 801, 804, 53, 805, 806, 809, 54, 810, 811, 814] (by decide +kernel) (by decide +kernel)
set_option maxRecDepth 20000 in
theorem in_wsL_law0_r28 : GoodIn lw_tbl wsL_law0_r28 := goodIn_r _ [55, 815, 816, 817, 819, 56, 820, 823, 57, 824, 1314, 1315, 1316, 1317, 1318, 1320, 77, 1321, 825, 826, 827, 828, 829, 830] (by decide +kernel) (by decide +kernel)
set_option maxRecDepth 20000 in
theorem in_wsL_law0_r29 : GoodIn lw_tbl wsL_law0_r29 := goodIn_r _ [831, 1322, 1323, 1324, 1325, 832, 833, 834, 835, 836, 837, 838, 1326, 1327, 1328, 1329, 839, 840, 841, 842, 843, 844, 845, 1330] (by decide +kernel) (by decide +kernel)
set_option maxRecDepth 20000 in
theorem in_wsL_law0_r30 : GoodIn lw_tbl wsL_law0_r30 := goodIn_r _ [1331, 1332, 1333, 846, 847, 848, 849, 850, 851, 852, 855, 58, 856, 859, 59, 860, 863, 60, 864, 865, 1334, 1335, 1336, 1337] (by decide +kernel) (by decide +kernel)
set_option maxRecDepth 20000 in
theorem in_wsL_law0_r31 : GoodIn lw_tbl wsL_law0_r31 := goodIn_r _ [866, 867, 868, 869, 870, 871, 872, 875, 61, 876, 879, 62, 880, 881, 885, 63, 886, 1338, 1339, 1340, 1341, 887, 888, 889] (by decide +kernel) (by decide +kernel)
set_option maxRecDepth 20000 in
theorem in_wsL_law0_r32 : GoodIn lw_tbl wsL_law0_r32 := goodIn_r _ [890, 891, 892, 893, 1342, 1343, 1344, 1345, 894, 895, 896, 897, 898, 899, 900, 903, 64, 904, 907, 65, 908, 1346, 1347, 1348] (by decide +kernel) (by decide +kernel)
set_option maxRecDepth 20000 in
theorem in_wsL_law0_r33 : GoodIn lw_tbl wsL_law0_r33 := goodIn_r _ [1349, 1350, 1351, 1352, 1353, 1354, 1355, 909, 910, 911, 912, 913, 914, 915, 918, 66, 919, 1356, 1357, 1358, 1359, 920, 921, 922] (by decide +kernel) (by decide +kernel)
set_option maxRecDepth 20000 in
theorem in_wsL_law0_r34 : GoodIn lw_tbl wsL_law0_r34 := goodIn_r _ [923, 924, 925, 926, 1360, 1361, 1362, 1363, 927, 928, 929, 930, 931, 932, 933, 936, 67, 937, 1364, 1365, 1366, 1367, 1368, 941] (by decide +kernel) (by decide +kernel)
set_option maxRecDepth 20000 in
theorem in_wsL_law0_r35 : GoodIn lw_tbl wsL_law0_r35 := goodIn_r _ [942, 943, 944, 945, 946, 947, 950, 68, 951, 1369, 1370, 1371, 1372, 952, 953, 954, 955, 956, 957, 958, 961, 69, 962, 965] (by decide +kernel) (by decide +kernel)
set_option maxRecDepth 20000 in
theorem in_wsL_law0_r36 : GoodIn lw_tbl wsL_law0_r36 := goodIn_r _ [966, 967, 963, 964, 1373, 1374, 1375, 1376, 1377, 1378, 1379, 1380, 1381, 1382, 968, 969, 970, 971, 972, 973, 974, 977, 70, 978] (by decide +kernel) (by decide +kernel)
set_option maxRecDepth 20000 in
theorem in_wsL_law0_r37 : GoodIn lw_tbl wsL_law0_r37 := goodIn_r _ [979, 980, 982, 71, 983, 984, 1383, 1384, 1385, 1386, 985, 986, 987, 988, 989, 990, 991, 441, 11, 442, 1387, 1388, 1389, 1390] (by decide +kernel) (by decide +kernel)
set_option maxRecDepth 20000 in
theorem in_wsL_law0_r38 : GoodIn lw_tbl wsL_law0_r38 := goodIn_r _ [399, 400, 401, 402, 405, 4, 406, 1391, 1392, 1393, 1394, 993, 994, 995, 996, 997, 998, 999, 1002, 72, 1003, 1395, 1396, 1397] (by decide +kernel) (by decide +kernel)
set_option maxRecDepth 20000 in
theorem in_wsL_law0_r39 : GoodIn lw_tbl wsL_law0_r39 := goodIn_r _ [1398, 415, 416, 417, 418, 421, 7, 422, 439, 1399, 1400, 1401, 1402, 1004, 1005, 1006, 1007, 1008, 1009, 1010, 1012, 102, 1013, 1014] (by decide +kernel) (by decide +kernel)
set_option maxRecDepth 20000 in
theorem in_wsL_law0_r40 : GoodIn lw_tbl wsL_law0_r40 := goodIn_r _ [1017, 1018, 1020, 1021, 1022, 1029, 1030, 1031, 1034, 1035, 1036, 1403, 1404, 1405, 1406, 1407, 1408, 1409, 1410, 1412, 78, 1413, 1038, 1039] (by decide +kernel) (by decide +kernel)
set_option maxRecDepth 20000 in
theorem in_wsL_law0_r41 : GoodIn lw_tbl wsL_law0_r41 := goodIn_r _ [1040, 1041, 1042, 1043, 1044, 1045, 1046, 1048, 103, 1049, 1050, 1051, 1414, 1415, 1416, 1417, 1418, 1419, 1420, 1422, 79, 1423, 1424, 1062] (by decide +kernel) (by decide +kernel)
set_option maxRecDepth 20000 in
theorem in_wsL_law0_r42 : GoodIn lw_tbl wsL_law0_r42 := goodIn_r _ [1063, 1064, 1065, 1066, 1067, 1068, 1069, 1070, 1071, 1425, 1426, 1427, 1428, 1072, 1073, 1074, 1075, 1076, 1077, 1078, 1429, 1430, 1431, 1432] (by decide +kernel) (by decide +kernel)

set_option maxRecDepth 20000 in
theorem wsL_law_g0 : GoodIn lw_tbl wsL_law0 := (goodIn_app (goodIn_app (goodIn_app (goodIn_app (goodIn_app (goodIn_app (goodIn_app (goodIn_app (goodIn_app (goodIn_app in_wsL_law0_r1 (goodIn_app in_wsL_law0_r2 (goodIn_app in_wsL_law0_r3 (goodIn_app in_wsL_law0_r4 (goodIn_app in_wsL_law0_r5 (goodIn_app in_wsL_law0_r6 (goodIn_app in_wsL_law0_r7 (goodIn_app in_wsL_law0_r8 (goodIn_app in_wsL_law0_r9 (goodIn_app in_wsL_law0_r10 (goodIn_app in_wsL_law0_r11 (goodIn_app in_wsL_law0_r12 (goodIn_app in_wsL_law0_r13 (goodIn_app in_wsL_law0_r14 (goodIn_app in_wsL_law0_r15 (goodIn_app in_wsL_law0_r16 (goodIn_app in_wsL_law0_r17 (goodIn_app in_wsL_law0_r18 (goodIn_app in_wsL_law0_r19 (goodIn_app in_wsL_law0_r20 (goodIn_app in_wsL_law0_r21 (goodIn_app in_wsL_law0_r22 (goodIn_app in_wsL_law0_r23 (goodIn_app in_wsL_law0_r24 (goodIn_app in_wsL_law0_r25 (goodIn_app in_wsL_law0_r26 (goodIn_app in_wsL_law0_r27 (goodIn_app in_wsL_law0_r28 (goodIn_app in_wsL_law0_r29 (goodIn_app in_wsL_law0_r30 (goodIn_app in_wsL_law0_r31 (goodIn_app in_wsL_law0_r32 (goodIn_app in_wsL_law0_r33 (goodIn_app in_wsL_law0_r34 (goodIn_app in_wsL_law0_r35 (goodIn_app in_wsL_law0_r36 (goodIn_app in_wsL_law0_r37 (goodIn_app in_wsL_law0_r38 (goodIn_app in_wsL_law0_r39 (goodIn_app in_wsL_law0_r40 (goodIn_app in_wsL_law0_r41 in_wsL_law0_r42))))))))))))))))))))))))))))))))))))))))) in_wsX80) in_wsX90) in_wsX60) in_wsX50) in_wsX20) in_wsX70) in_wsX00) in_wsX10) (fun w h => absurd h List.not_mem_nil))
theorem wsL_law_in0 : ∀ w ∈ wsL_law0, w ∈ lw_tbl := fun w h => (wsL_law_g0 w h).1
