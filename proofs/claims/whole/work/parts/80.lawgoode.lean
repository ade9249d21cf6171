/-! the law's calls -/
set_option maxRecDepth 20000 in
theorem pgL_firstWarning_1 : GoodIn wsL_law (Cond.codeWith yL_firstWarning cL_firstWarning 4 (some .int) [(0, 9, 12, 24)] :: wsL_firstWarning_r1) := goodIn_r _ [1293, 748, 1294, 1295, 1296, 2, 1297, 29, 24, 30, 1114, 1115, 1116, 1117, 941, 942, 943, 757, 758, 1255, 1256, 1257, 23, 1258, 79] (by decide +kernel) (by decide +kernel)
set_option maxRecDepth 20000 in
theorem pgL_firstWarning_2 : GoodIn wsL_law wsL_firstWarning_r2 := goodIn_r _ [424, 80, 81, 425, 426, 427, 428, 429, 75, 76, 77, 430, 431, 432, 74, 433, 434, 435, 436, 437, 438, 71, 1259, 1260] (by decide +kernel) (by decide +kernel)
set_option maxRecDepth 20000 in
theorem pgL_firstWarning_3 : GoodIn wsL_law wsL_firstWarning_r3 := goodIn_r _ [1261, 83, 1262, 827, 443, 444, 91, 445, 1118, 1119, 1120, 27, 1121, 1122, 96, 97, 1123, 1124, 1125, 46, 1126, 65, 1127, 1128] (by decide +kernel) (by decide +kernel)
set_option maxRecDepth 20000 in
theorem pgL_firstWarning_4 : GoodIn wsL_law wsL_firstWarning_r4 := goodIn_r _ [1129, 1130, 1131, 1132, 1133, 1134, 1135, 1136, 347, 348, 349, 350, 351, 352, 1137, 1138, 1139, 1140, 1141, 1142, 1143, 1144, 1145, 1146] (by decide +kernel) (by decide +kernel)
set_option maxRecDepth 20000 in
theorem pgL_firstWarning_5 : GoodIn wsL_law wsL_firstWarning_r5 := goodIn_r _ [1147, 1148, 1149, 1150, 893, 894, 1151, 704, 705, 706, 707, 708, 709, 1152, 1153, 1154, 1155, 1156, 824, 825, 826, 1157, 1158, 1159] (by decide +kernel) (by decide +kernel)
set_option maxRecDepth 20000 in
theorem pgL_firstWarning_6 : GoodIn wsL_law wsL_firstWarning_r6 := goodIn_r _ [1160, 1161, 886, 887, 888, 889, 890, 891, 558, 559, 560, 892, 632, 633, 1162, 1030, 1031, 1032, 1033, 1034, 1035, 1036, 1037, 1038] (by decide +kernel) (by decide +kernel)
set_option maxRecDepth 20000 in
theorem pgL_firstWarning_7 : GoodIn wsL_law wsL_firstWarning_r7 := goodIn_r _ [1163, 1164, 1165, 1166, 1167, 1168, 1169, 1170, 1171, 1172, 1173, 1174, 87, 948, 949, 950, 951, 1175, 1087, 1088, 1089, 1090, 1091, 1092] (by decide +kernel) (by decide +kernel)
set_option maxRecDepth 20000 in
theorem pgL_firstWarning_8 : GoodIn wsL_law wsL_firstWarning_r8 := goodIn_r _ [1093, 1094, 1176, 1177, 1178, 1179, 1180, 1181, 1182, 1183, 1184, 1185, 1186, 863, 864, 865, 866, 867, 1187, 1188, 1189, 1190, 1191, 1192] (by decide +kernel) (by decide +kernel)
set_option maxRecDepth 20000 in
theorem pgL_firstWarning_9 : GoodIn wsL_law wsL_firstWarning_r9 := goodIn_r _ [440, 441, 442, 1193, 1194] (by decide +kernel) (by decide +kernel)
set_option maxRecDepth 20000 in
theorem ggL_law_L_firstWarning : GoodIn wsL_law wsL_firstWarning := goodIn_ca (goodIn_ca (goodIn_ca (goodIn_ca (goodIn_ca (goodIn_ca (goodIn_ca (goodIn_ca (goodIn_ca (goodIn_ca pgL_firstWarning_1 (goodIn_app pgL_firstWarning_2 (goodIn_app pgL_firstWarning_3 (goodIn_app pgL_firstWarning_4 (goodIn_app pgL_firstWarning_5 (goodIn_app pgL_firstWarning_6 (goodIn_app pgL_firstWarning_7 (goodIn_app pgL_firstWarning_8 (pgL_firstWarning_9))))))))) pgx_X12) pgx_X3) pgx_X6) pgx_X2) pgx_X4) pgx_X7) pgx_X1) pgx_X11) pgt_229
set_option maxRecDepth 20000 in
theorem gL_law_L_firstWarning : GoodIn wsL_law (va_wsS RL 235 yL_firstWarning wsL_firstWarning) := goodIn_app (goodIn_of _ (by decide +kernel)) ggL_law_L_firstWarning
set_option maxRecDepth 20000 in
theorem pgX14_firstWarning_1 : GoodIn wsL_law (Cond.code yX14_firstWarning cX14_firstWarning 2 (some .int) :: wsX14_firstWarning_r1) := goodIn_r _ [1301, 163, 1208, 1267, 1268, 1269, 5, 1270, 115, 1199, 1200, 1201, 1202, 113, 190, 191, 192, 165, 166, 167, 168, 1271, 1272, 1273, 1274] (by decide +kernel) (by decide +kernel)
set_option maxRecDepth 20000 in
theorem pgX14_firstWarning_2 : GoodIn wsL_law wsX14_firstWarning_r2 := goodIn_r _ [116, 1275, 652, 653, 654, 1203, 1204, 1205, 1206, 1207, 1209, 1210, 1211, 1212, 1213, 1214, 1215, 1216, 1217, 1218, 1219, 1220, 714, 715] (by decide +kernel) (by decide +kernel)
set_option maxRecDepth 20000 in
theorem pgX14_firstWarning_3 : GoodIn wsL_law wsX14_firstWarning_r3 := goodIn_r _ [716, 717, 718, 719, 720, 140, 141, 142, 832, 833, 834, 835, 836, 837, 838, 839, 1221, 1222, 1223, 1224, 1225, 1226, 1227, 899] (by decide +kernel) (by decide +kernel)
set_option maxRecDepth 20000 in
theorem pgX14_firstWarning_4 : GoodIn wsL_law wsX14_firstWarning_r4 := goodIn_r _ [900, 901, 902, 903, 904, 905, 557, 558, 559, 560, 631, 632, 633, 1047, 1048, 1049, 1050, 1228, 1229, 1230, 1231, 1103, 1104, 1105] (by decide +kernel) (by decide +kernel)
set_option maxRecDepth 20000 in
theorem pgX14_firstWarning_5 : GoodIn wsL_law wsX14_firstWarning_r5 := goodIn_r _ [1106, 1232, 1233, 1234, 1235, 1236, 1237, 1238, 1239, 872, 873, 874, 875, 876, 877, 1075, 1076, 1077, 1078, 1240, 1241, 1242, 1243, 1244] (by decide +kernel) (by decide +kernel)
set_option maxRecDepth 20000 in
theorem pgX14_firstWarning_6 : GoodIn wsL_law wsX14_firstWarning_r6 := goodIn_r _ [1245, 1246, 1247, 1276, 1277, 1278, 1279] (by decide +kernel) (by decide +kernel)
set_option maxRecDepth 20000 in
theorem ggL_law_X14_firstWarning : GoodIn wsL_law wsX14_firstWarning := goodIn_ca (goodIn_ca (goodIn_ca pgX14_firstWarning_1 (goodIn_app pgX14_firstWarning_2 (goodIn_app pgX14_firstWarning_3 (goodIn_app pgX14_firstWarning_4 (goodIn_app pgX14_firstWarning_5 (pgX14_firstWarning_6)))))) pgx_X14) pgx_X13
set_option maxRecDepth 20000 in
theorem gL_law_X14_firstWarning : GoodIn wsL_law (wsV RL 237 RX14 yX14_firstWarning wsX14_firstWarning) := goodIn_app (goodIn_of _ (by decide +kernel)) ggL_law_X14_firstWarning
set_option maxRecDepth 20000 in
theorem pgL_doneBehind_1 : GoodIn wsL_law (Cond.codeWith yL_doneBehind cL_doneBehind 5 (some .int) [(0, 10, 13, 24)] :: wsL_doneBehind_r1) := goodIn_r _ [1304, 748, 1305, 1306, 1307, 2, 1308, 24, 29, 30, 1114, 1115, 1116, 1117, 941, 942, 943, 757, 758, 1255, 1256, 1257, 23, 1258, 79] (by decide +kernel) (by decide +kernel)
set_option maxRecDepth 20000 in
theorem pgL_doneBehind_2 : GoodIn wsL_law wsL_doneBehind_r2 := goodIn_r _ [424, 80, 81, 425, 426, 427, 428, 429, 75, 76, 77, 430, 431, 432, 74, 433, 434, 435, 436, 437, 438, 71, 1259, 1260] (by decide +kernel) (by decide +kernel)
set_option maxRecDepth 20000 in
theorem pgL_doneBehind_3 : GoodIn wsL_law wsL_doneBehind_r3 := goodIn_r _ [1261, 83, 1262, 827, 443, 444, 91, 445, 1118, 1119, 1120, 27, 1121, 1122, 96, 97, 1123, 1124, 1125, 46, 1126, 65, 1127, 1128] (by decide +kernel) (by decide +kernel)
set_option maxRecDepth 20000 in
theorem pgL_doneBehind_4 : GoodIn wsL_law wsL_doneBehind_r4 := goodIn_r _ [1129, 1130, 1131, 1132, 1133, 1134, 1135, 1136, 347, 348, 349, 350, 351, 352, 1137, 1138, 1139, 1140, 1141, 1142, 1143, 1144, 1145, 1146] (by decide +kernel) (by decide +kernel)
set_option maxRecDepth 20000 in
theorem pgL_doneBehind_5 : GoodIn wsL_law wsL_doneBehind_r5 := goodIn_r _ [1147, 1148, 1149, 1150, 893, 894, 1151, 704, 705, 706, 707, 708, 709, 1152, 1153, 1154, 1155, 1156, 824, 825, 826, 1157, 1158, 1159] (by decide +kernel) (by decide +kernel)
set_option maxRecDepth 20000 in
theorem pgL_doneBehind_6 : GoodIn wsL_law wsL_doneBehind_r6 := goodIn_r _ [1160, 1161, 886, 887, 888, 889, 890, 891, 558, 559, 560, 892, 632, 633, 1162, 1030, 1031, 1032, 1033, 1034, 1035, 1036, 1037, 1038] (by decide +kernel) (by decide +kernel)
set_option maxRecDepth 20000 in
theorem pgL_doneBehind_7 : GoodIn wsL_law wsL_doneBehind_r7 := goodIn_r _ [1163, 1164, 1165, 1166, 1167, 1168, 1169, 1170, 1171, 1172, 1173, 1174, 87, 948, 949, 950, 951, 1175, 1087, 1088, 1089, 1090, 1091, 1092] (by decide +kernel) (by decide +kernel)
set_option maxRecDepth 20000 in
theorem pgL_doneBehind_8 : GoodIn wsL_law wsL_doneBehind_r8 := goodIn_r _ [1093, 1094, 1176, 1177, 1178, 1179, 1180, 1181, 1182, 1183, 1184, 1185, 1186, 863, 864, 865, 866, 867, 1187, 1188, 1189, 1190, 1191, 1192] (by decide +kernel) (by decide +kernel)
set_option maxRecDepth 20000 in
theorem pgL_doneBehind_9 : GoodIn wsL_law wsL_doneBehind_r9 := goodIn_r _ [440, 441, 442, 1193, 1194, 759] (by decide +kernel) (by decide +kernel)
set_option maxRecDepth 20000 in
theorem ggL_law_L_doneBehind : GoodIn wsL_law wsL_doneBehind := goodIn_ca (goodIn_ca (goodIn_ca (goodIn_ca (goodIn_ca (goodIn_ca (goodIn_ca (goodIn_ca (goodIn_ca (goodIn_ca pgL_doneBehind_1 (goodIn_app pgL_doneBehind_2 (goodIn_app pgL_doneBehind_3 (goodIn_app pgL_doneBehind_4 (goodIn_app pgL_doneBehind_5 (goodIn_app pgL_doneBehind_6 (goodIn_app pgL_doneBehind_7 (goodIn_app pgL_doneBehind_8 (pgL_doneBehind_9))))))))) pgx_X12) pgx_X6) pgx_X2) pgx_X7) pgx_X4) pgx_X3) pgx_X1) pgx_X11) pgt_229
set_option maxRecDepth 20000 in
theorem gL_law_L_doneBehind : GoodIn wsL_law (va_wsS RL 238 yL_doneBehind wsL_doneBehind) := goodIn_app (goodIn_of _ (by decide +kernel)) ggL_law_L_doneBehind
set_option maxRecDepth 20000 in
theorem pgX14_doneBehind_1 : GoodIn wsL_law (Cond.code yX14_doneBehind cX14_doneBehind 3 (some .int) :: wsX14_doneBehind_r1) := goodIn_r _ [1312, 163, 115, 1199, 1200, 1201, 5, 1202, 113, 190, 191, 192, 764, 765, 766, 767, 165, 166, 167, 168, 140, 141, 142, 1267, 1268] (by decide +kernel) (by decide +kernel)
set_option maxRecDepth 20000 in
theorem pgX14_doneBehind_2 : GoodIn wsL_law wsX14_doneBehind_r2 := goodIn_r _ [1269, 1270, 1271, 1272, 1273, 1274, 116, 1275, 652, 653, 654, 1203, 1204, 1205, 1206, 1207, 1208, 1209, 1210, 1211, 1212, 1213, 1214, 1215] (by decide +kernel) (by decide +kernel)
set_option maxRecDepth 20000 in
theorem pgX14_doneBehind_3 : GoodIn wsL_law wsX14_doneBehind_r3 := goodIn_r _ [1216, 1217, 1218, 1219, 1220, 714, 715, 716, 717, 718, 719, 720, 832, 833, 834, 835, 836, 837, 838, 839, 1221, 1222, 1223, 1224] (by decide +kernel) (by decide +kernel)
set_option maxRecDepth 20000 in
theorem pgX14_doneBehind_4 : GoodIn wsL_law wsX14_doneBehind_r4 := goodIn_r _ [1225, 1226, 1227, 899, 900, 901, 902, 903, 904, 905, 557, 558, 559, 560, 631, 632, 633, 1047, 1048, 1049, 1050, 1228, 1229, 1230] (by decide +kernel) (by decide +kernel)
set_option maxRecDepth 20000 in
theorem pgX14_doneBehind_5 : GoodIn wsL_law wsX14_doneBehind_r5 := goodIn_r _ [1231, 1103, 1104, 1105, 1106, 1232, 1233, 1234, 1235, 1236, 1237, 1238, 1239, 872, 873, 874, 875, 876, 877, 1075, 1076, 1077, 1078, 1240] (by decide +kernel) (by decide +kernel)
set_option maxRecDepth 20000 in
theorem pgX14_doneBehind_6 : GoodIn wsL_law wsX14_doneBehind_r6 := goodIn_r _ [1241, 1242, 1243, 1244, 1245, 1246, 1247, 1276, 1277, 1278, 1279] (by decide +kernel) (by decide +kernel)
set_option maxRecDepth 20000 in
theorem ggL_law_X14_doneBehind : GoodIn wsL_law wsX14_doneBehind := goodIn_ca (goodIn_ca (goodIn_ca pgX14_doneBehind_1 (goodIn_app pgX14_doneBehind_2 (goodIn_app pgX14_doneBehind_3 (goodIn_app pgX14_doneBehind_4 (goodIn_app pgX14_doneBehind_5 (pgX14_doneBehind_6)))))) pgx_X14) pgx_X13
set_option maxRecDepth 20000 in
theorem gL_law_X14_doneBehind : GoodIn wsL_law (wsV RL 240 RX14 yX14_doneBehind wsX14_doneBehind) := goodIn_app (goodIn_of _ (by decide +kernel)) ggL_law_X14_doneBehind
set_option maxRecDepth 20000 in
theorem pgL_highestSafe_1 : GoodIn wsL_law (Cond.codeWith yL_highestSafe cL_highestSafe 4 (some .int) [(0, 9, 12, 24)] :: wsL_highestSafe_r1) := goodIn_r _ [1315, 748, 1316, 1317, 1318, 2, 1319, 29, 24, 30, 1114, 1115, 1116, 1117, 941, 942, 943, 757, 758, 1255, 1256, 1257, 23, 1258, 79] (by decide +kernel) (by decide +kernel)
set_option maxRecDepth 20000 in
theorem pgL_highestSafe_2 : GoodIn wsL_law wsL_highestSafe_r2 := goodIn_r _ [424, 80, 81, 425, 426, 427, 428, 429, 75, 76, 77, 430, 431, 432, 74, 433, 434, 435, 436, 437, 438, 71, 1259, 1260] (by decide +kernel) (by decide +kernel)
set_option maxRecDepth 20000 in
theorem pgL_highestSafe_3 : GoodIn wsL_law wsL_highestSafe_r3 := goodIn_r _ [1261, 83, 1262, 827, 443, 444, 91, 445, 986, 987, 988, 989, 990, 558, 559, 560, 991, 704, 705, 706, 707, 708, 709, 1118] (by decide +kernel) (by decide +kernel)
set_option maxRecDepth 20000 in
theorem pgL_highestSafe_4 : GoodIn wsL_law wsL_highestSafe_r4 := goodIn_r _ [1119, 1120, 27, 1121, 1122, 96, 97, 1123, 1124, 1125, 46, 1126, 65, 1127, 1128, 1129, 1130, 1131, 1132, 1133, 1134, 1135, 1136, 347] (by decide +kernel) (by decide +kernel)
set_option maxRecDepth 20000 in
theorem pgL_highestSafe_5 : GoodIn wsL_law wsL_highestSafe_r5 := goodIn_r _ [348, 349, 350, 351, 352, 1137, 1138, 1139, 1140, 1141, 1142, 1143, 1144, 1145, 1146, 1147, 1148, 1149, 1150, 893, 894, 1151, 1152, 1153] (by decide +kernel) (by decide +kernel)
set_option maxRecDepth 20000 in
theorem pgL_highestSafe_6 : GoodIn wsL_law wsL_highestSafe_r6 := goodIn_r _ [1154, 1155, 1156, 824, 825, 826, 1157, 1158, 1159, 1160, 1161, 886, 887, 888, 889, 890, 891, 892, 632, 633, 1162, 1030, 1031, 1032] (by decide +kernel) (by decide +kernel)
set_option maxRecDepth 20000 in
theorem pgL_highestSafe_7 : GoodIn wsL_law wsL_highestSafe_r7 := goodIn_r _ [1033, 1034, 1035, 1036, 1037, 1038, 1163, 1164, 1165, 1166, 1167, 1168, 1169, 1170, 1171, 1172, 1173, 1174, 87, 948, 949, 950, 951, 1175] (by decide +kernel) (by decide +kernel)
set_option maxRecDepth 20000 in
theorem pgL_highestSafe_8 : GoodIn wsL_law wsL_highestSafe_r8 := goodIn_r _ [1087, 1088, 1089, 1090, 1091, 1092, 1093, 1094, 1176, 1177, 1178, 1179, 1180, 1181, 1182, 1183, 1184, 1185, 1186, 863, 864, 865, 866, 867] (by decide +kernel) (by decide +kernel)
set_option maxRecDepth 20000 in
theorem pgL_highestSafe_9 : GoodIn wsL_law wsL_highestSafe_r9 := goodIn_r _ [1187, 1188, 1189, 1190, 1191, 1192, 440, 441, 442, 1193, 1194] (by decide +kernel) (by decide +kernel)
set_option maxRecDepth 20000 in
theorem ggL_law_L_highestSafe : GoodIn wsL_law wsL_highestSafe := goodIn_ca (goodIn_ca (goodIn_ca (goodIn_ca (goodIn_ca (goodIn_ca (goodIn_ca (goodIn_ca (goodIn_ca (goodIn_ca pgL_highestSafe_1 (goodIn_app pgL_highestSafe_2 (goodIn_app pgL_highestSafe_3 (goodIn_app pgL_highestSafe_4 (goodIn_app pgL_highestSafe_5 (goodIn_app pgL_highestSafe_6 (goodIn_app pgL_highestSafe_7 (goodIn_app pgL_highestSafe_8 (pgL_highestSafe_9))))))))) pgx_X12) pgx_X6) pgx_X4) pgx_X2) pgx_X7) pgx_X3) pgx_X1) pgx_X11) pgt_229
set_option maxRecDepth 20000 in
theorem gL_law_L_highestSafe : GoodIn wsL_law (va_wsS RL 241 yL_highestSafe wsL_highestSafe) := goodIn_app (goodIn_of _ (by decide +kernel)) ggL_law_L_highestSafe
