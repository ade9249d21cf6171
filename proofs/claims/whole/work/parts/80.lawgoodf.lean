/-! the law's calls -/
set_option maxRecDepth 20000 in
theorem pgX14_highestSafe_1 : GoodIn wsL_law (Cond.code yX14_highestSafe cX14_highestSafe 4 (some .int) :: wsX14_highestSafe_r1) := goodIn_r _ [1323, 163, 115, 116, 1199, 1200, 1201, 5, 1202, 113, 190, 191, 192, 165, 166, 167, 168, 1271, 1272, 1273, 1274, 1275, 652, 653, 654] (by decide +kernel) (by decide +kernel)
set_option maxRecDepth 20000 in
theorem pgX14_highestSafe_2 : GoodIn wsL_law wsX14_highestSafe_r2 := goodIn_r _ [996, 997, 998, 999, 557, 558, 559, 560, 140, 141, 142, 714, 715, 716, 717, 718, 719, 720, 1203, 1204, 1205, 1206, 1207, 1208] (by decide +kernel) (by decide +kernel)
set_option maxRecDepth 20000 in
theorem pgX14_highestSafe_3 : GoodIn wsL_law wsX14_highestSafe_r3 := goodIn_r _ [1209, 1210, 1211, 1212, 1213, 1214, 1215, 1216, 1217, 1218, 1219, 1220, 832, 833, 834, 835, 836, 837, 838, 839, 1221, 1222, 1223, 1224] (by decide +kernel) (by decide +kernel)
set_option maxRecDepth 20000 in
theorem pgX14_highestSafe_4 : GoodIn wsL_law wsX14_highestSafe_r4 := goodIn_r _ [1225, 1226, 1227, 899, 900, 901, 902, 903, 904, 905, 631, 632, 633, 1047, 1048, 1049, 1050, 1228, 1229, 1230, 1231, 1103, 1104, 1105] (by decide +kernel) (by decide +kernel)
set_option maxRecDepth 20000 in
theorem pgX14_highestSafe_5 : GoodIn wsL_law wsX14_highestSafe_r5 := goodIn_r _ [1106, 1232, 1233, 1234, 1235, 1236, 1237, 1238, 1239, 872, 873, 874, 875, 876, 877, 1075, 1076, 1077, 1078, 1240, 1241, 1242, 1243, 1244] (by decide +kernel) (by decide +kernel)
set_option maxRecDepth 20000 in
theorem pgX14_highestSafe_6 : GoodIn wsL_law wsX14_highestSafe_r6 := goodIn_r _ [1245, 1246, 1247, 1276, 1277, 1278, 1279] (by decide +kernel) (by decide +kernel)
set_option maxRecDepth 20000 in
theorem ggL_law_X14_highestSafe : GoodIn wsL_law wsX14_highestSafe := goodIn_ca (goodIn_ca (goodIn_ca pgX14_highestSafe_1 (goodIn_app pgX14_highestSafe_2 (goodIn_app pgX14_highestSafe_3 (goodIn_app pgX14_highestSafe_4 (goodIn_app pgX14_highestSafe_5 (pgX14_highestSafe_6)))))) pgx_X14) pgx_X13
set_option maxRecDepth 20000 in
theorem gL_law_X14_highestSafe : GoodIn wsL_law (wsV RL 243 RX14 yX14_highestSafe wsX14_highestSafe) := goodIn_app (goodIn_of _ (by decide +kernel)) ggL_law_X14_highestSafe
set_option maxRecDepth 20000 in
theorem pgL_mostServings_1 : GoodIn wsL_law (Cond.codeWith yL_mostServings cL_mostServings 4 (some .int) [(0, 9, 12, 24)] :: wsL_mostServings_r1) := goodIn_r _ [1326, 748, 1327, 1328, 1329, 2, 1330, 29, 24, 30, 1114, 1115, 1116, 1117, 941, 942, 943, 757, 758, 1255, 1256, 1257, 23, 1258, 79] (by decide +kernel) (by decide +kernel)
set_option maxRecDepth 20000 in
theorem pgL_mostServings_2 : GoodIn wsL_law wsL_mostServings_r2 := goodIn_r _ [424, 80, 81, 425, 426, 427, 428, 429, 75, 76, 77, 430, 431, 432, 74, 433, 434, 435, 436, 437, 438, 71, 1259, 1260] (by decide +kernel) (by decide +kernel)
set_option maxRecDepth 20000 in
theorem pgL_mostServings_3 : GoodIn wsL_law wsL_mostServings_r3 := goodIn_r _ [1261, 83, 1262, 827, 443, 444, 91, 445, 1118, 1119, 1120, 27, 1121, 1122, 96, 97, 1123, 1124, 1125, 46, 1126, 65, 1127, 1128] (by decide +kernel) (by decide +kernel)
set_option maxRecDepth 20000 in
theorem pgL_mostServings_4 : GoodIn wsL_law wsL_mostServings_r4 := goodIn_r _ [1129, 1130, 1131, 1132, 1133, 1134, 1135, 1136, 347, 348, 349, 350, 351, 352, 1137, 1138, 1139, 1140, 1141, 1142, 1143, 1144, 1145, 1146] (by decide +kernel) (by decide +kernel)
set_option maxRecDepth 20000 in
theorem pgL_mostServings_5 : GoodIn wsL_law wsL_mostServings_r5 := goodIn_r _ [1147, 1148, 1149, 1150, 893, 894, 1151, 704, 705, 706, 707, 708, 709, 1152, 1153, 1154, 1155, 1156, 824, 825, 826, 1157, 1158, 1159] (by decide +kernel) (by decide +kernel)
set_option maxRecDepth 20000 in
theorem pgL_mostServings_6 : GoodIn wsL_law wsL_mostServings_r6 := goodIn_r _ [1160, 1161, 886, 887, 888, 889, 890, 891, 558, 559, 560, 892, 632, 633, 1162, 1030, 1031, 1032, 1033, 1034, 1035, 1036, 1037, 1038] (by decide +kernel) (by decide +kernel)
set_option maxRecDepth 20000 in
theorem pgL_mostServings_7 : GoodIn wsL_law wsL_mostServings_r7 := goodIn_r _ [1163, 1164, 1165, 1166, 1167, 1168, 1169, 1170, 1171, 1172, 1173, 1174, 87, 948, 949, 950, 951, 1175, 1087, 1088, 1089, 1090, 1091, 1092] (by decide +kernel) (by decide +kernel)
set_option maxRecDepth 20000 in
theorem pgL_mostServings_8 : GoodIn wsL_law wsL_mostServings_r8 := goodIn_r _ [1093, 1094, 1176, 1177, 1178, 1179, 1180, 1181, 1182, 1183, 1184, 1185, 1186, 863, 864, 865, 866, 867, 1187, 1188, 1189, 1190, 1191, 1192] (by decide +kernel) (by decide +kernel)
set_option maxRecDepth 20000 in
theorem pgL_mostServings_9 : GoodIn wsL_law wsL_mostServings_r9 := goodIn_r _ [440, 441, 442, 1193, 1194, 921, 922, 923, 924] (by decide +kernel) (by decide +kernel)
set_option maxRecDepth 20000 in
theorem ggL_law_L_mostServings : GoodIn wsL_law wsL_mostServings := goodIn_ca (goodIn_ca (goodIn_ca (goodIn_ca (goodIn_ca (goodIn_ca (goodIn_ca (goodIn_ca (goodIn_ca (goodIn_ca pgL_mostServings_1 (goodIn_app pgL_mostServings_2 (goodIn_app pgL_mostServings_3 (goodIn_app pgL_mostServings_4 (goodIn_app pgL_mostServings_5 (goodIn_app pgL_mostServings_6 (goodIn_app pgL_mostServings_7 (goodIn_app pgL_mostServings_8 (pgL_mostServings_9))))))))) pgx_X12) pgx_X6) pgx_X2) pgx_X4) pgx_X7) pgx_X3) pgx_X1) pgx_X11) pgt_229
set_option maxRecDepth 20000 in
theorem gL_law_L_mostServings : GoodIn wsL_law (va_wsS RL 244 yL_mostServings wsL_mostServings) := goodIn_app (goodIn_of _ (by decide +kernel)) ggL_law_L_mostServings
set_option maxRecDepth 20000 in
theorem pgX14_mostServings_1 : GoodIn wsL_law (Cond.code yX14_mostServings cX14_mostServings 4 (some .int) :: wsX14_mostServings_r1) := goodIn_r _ [1334, 163, 115, 116, 1199, 1200, 1201, 5, 1202, 113, 190, 191, 192, 165, 166, 167, 168, 1271, 1272, 1273, 1274, 1275, 652, 653, 654] (by decide +kernel) (by decide +kernel)
set_option maxRecDepth 20000 in
theorem pgX14_mostServings_2 : GoodIn wsL_law wsX14_mostServings_r2 := goodIn_r _ [1203, 1204, 1205, 1206, 1207, 1208, 1209, 1210, 1211, 1212, 1213, 1214, 1215, 1216, 1217, 1218, 1219, 1220, 714, 715, 716, 717, 718, 719] (by decide +kernel) (by decide +kernel)
set_option maxRecDepth 20000 in
theorem pgX14_mostServings_3 : GoodIn wsL_law wsX14_mostServings_r3 := goodIn_r _ [720, 140, 141, 142, 832, 833, 834, 835, 836, 837, 838, 839, 1221, 1222, 1223, 1224, 1225, 1226, 1227, 899, 900, 901, 902, 903] (by decide +kernel) (by decide +kernel)
set_option maxRecDepth 20000 in
theorem pgX14_mostServings_4 : GoodIn wsL_law wsX14_mostServings_r4 := goodIn_r _ [904, 905, 557, 558, 559, 560, 631, 632, 633, 1047, 1048, 1049, 1050, 1228, 1229, 1230, 1231, 1103, 1104, 1105, 1106, 1232, 1233, 1234] (by decide +kernel) (by decide +kernel)
set_option maxRecDepth 20000 in
theorem pgX14_mostServings_5 : GoodIn wsL_law wsX14_mostServings_r5 := goodIn_r _ [1235, 1236, 1237, 1238, 1239, 872, 873, 874, 875, 876, 877, 1075, 1076, 1077, 1078, 1240, 1241, 1242, 1243, 1244, 1245, 1246, 1247, 1276] (by decide +kernel) (by decide +kernel)
set_option maxRecDepth 20000 in
theorem pgX14_mostServings_6 : GoodIn wsL_law wsX14_mostServings_r6 := goodIn_r _ [1277, 1278, 1279] (by decide +kernel) (by decide +kernel)
set_option maxRecDepth 20000 in
theorem ggL_law_X14_mostServings : GoodIn wsL_law wsX14_mostServings := goodIn_ca (goodIn_ca (goodIn_ca pgX14_mostServings_1 (goodIn_app pgX14_mostServings_2 (goodIn_app pgX14_mostServings_3 (goodIn_app pgX14_mostServings_4 (goodIn_app pgX14_mostServings_5 (pgX14_mostServings_6)))))) pgx_X14) pgx_X13
set_option maxRecDepth 20000 in
theorem gL_law_X14_mostServings : GoodIn wsL_law (wsV RL 246 RX14 yX14_mostServings wsX14_mostServings) := goodIn_app (goodIn_of _ (by decide +kernel)) ggL_law_X14_mostServings
set_option maxRecDepth 20000 in
theorem ggL_law_X12_meanHeat : GoodIn wsL_law wsX12_meanHeat := goodIn_r _ [1338, 24, 759, 436, 437, 23, 438, 79, 71, 1364, 1365, 1366, 1367, 1368, 1369, 1370, 1400, 1401, 1402, 1403, 1404, 1405, 1406, 1407, 1408, 1418, 1419, 1420, 1421, 1422, 1423, 1424, 1427, 1428, 1429, 1430, 1431] (by decide +kernel) (by decide +kernel)
set_option maxRecDepth 20000 in
theorem gL_law_X12_meanHeat : GoodIn wsL_law (wsV RL 247 RX12 yX12_meanHeat wsX12_meanHeat) := goodIn_app (goodIn_of _ (by decide +kernel)) ggL_law_X12_meanHeat
set_option maxRecDepth 20000 in
theorem ggL_law_X14_meanHeat : GoodIn wsL_law wsX14_meanHeat := goodIn_r _ [1342, 163, 113, 115, 140, 141, 5, 142, 1371, 1372, 1373, 1374, 1375, 1376, 1377, 1378, 1379, 1380, 1381, 1382, 1383, 1384, 1385, 1386, 1387, 1388, 1389, 1390, 1391, 1392, 1393, 1432, 1433, 1434, 1435, 1436, 1437, 1438, 1439, 1440, 1441, 1442, 1443, 1444, 1445, 1446, 1447, 1448, 1449, 1450, 1451, 1452] (by decide +kernel) (by decide +kernel)
set_option maxRecDepth 20000 in
theorem gL_law_X14_meanHeat : GoodIn wsL_law (wsV RL 251 RX14 yX14_meanHeat wsX14_meanHeat) := goodIn_app (goodIn_of _ (by decide +kernel)) ggL_law_X14_meanHeat
set_option maxRecDepth 20000 in
theorem pgX12_digest_1 : GoodIn wsL_law (Cond.code yX12_digest cX12_digest 4 (some .long) :: wsX12_digest_r1) := goodIn_r _ [1346, 1347, 24, 1348, 1349, 2, 1350, 1351, 921, 922, 923, 23, 924, 77, 759, 436, 437, 438, 79, 71, 1352, 1353, 1354, 1355, 1356] (by decide +kernel) (by decide +kernel)
set_option maxRecDepth 20000 in
theorem pgX12_digest_2 : GoodIn wsL_law wsX12_digest_r2 := goodIn_r _ [1357, 936, 937, 938, 74, 939, 434, 940, 558, 559, 560, 944, 945, 946, 947, 87, 948, 949, 950, 951] (by decide +kernel) (by decide +kernel)
set_option maxRecDepth 20000 in
theorem ggL_law_X12_digest : GoodIn wsL_law wsX12_digest := goodIn_ca (goodIn_ca (goodIn_ca (goodIn_ca (goodIn_ca (goodIn_ca pgX12_digest_1 (pgX12_digest_2)) pgx_X12) pgx_X6) pgx_X2) pgx_X4) pgx_X7
set_option maxRecDepth 20000 in
theorem gL_law_X12_digest : GoodIn wsL_law (wsV RL 252 RX12 yX12_digest wsX12_digest) := goodIn_app (goodIn_of _ (by decide +kernel)) ggL_law_X12_digest
set_option maxRecDepth 20000 in
theorem pgX14_digest_1 : GoodIn wsL_law (Cond.code yX14_digest cX14_digest 8 (some .long) :: wsX14_digest_r1) := goodIn_r _ [1361, 53, 113, 115, 1362, 1363, 557, 558, 559, 560, 163, 140, 141, 5, 142, 956, 957, 958, 959, 190, 191, 192, 165, 166, 167] (by decide +kernel) (by decide +kernel)
set_option maxRecDepth 20000 in
theorem pgX14_digest_2 : GoodIn wsL_law wsX14_digest_r2 := goodIn_r _ [168] (by decide +kernel) (by decide +kernel)
set_option maxRecDepth 20000 in
theorem ggL_law_X14_digest : GoodIn wsL_law wsX14_digest := goodIn_ca (goodIn_ca (goodIn_ca pgX14_digest_1 (pgX14_digest_2)) pgx_X14) pgx_X13
set_option maxRecDepth 20000 in
theorem gL_law_X14_digest : GoodIn wsL_law (wsV RL 256 RX14 yX14_digest wsX14_digest) := goodIn_app (goodIn_of _ (by decide +kernel)) ggL_law_X14_digest
