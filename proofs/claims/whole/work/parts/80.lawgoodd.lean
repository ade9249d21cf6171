/-! the law's calls -/
set_option maxRecDepth 20000 in
theorem pgX14_cook_1 : GoodIn wsL_law (Cond.code yX14_cook cX14_cook 3 (some .int) :: wsX14_cook_r1) := goodIn_r _ [1198, 163, 115, 1199, 1200, 1201, 5, 1202, 113, 190, 191, 192, 165, 166, 167, 168, 1203, 1204, 1205, 1206, 1207, 1208, 1209, 1210, 1211] (by decide +kernel) (by decide +kernel)
set_option maxRecDepth 20000 in
theorem pgX14_cook_2 : GoodIn wsL_law wsX14_cook_r2 := goodIn_r _ [1212, 1213, 1214, 1215, 1216, 1217, 1218, 1219, 1220, 714, 715, 716, 717, 718, 719, 720, 140, 141, 142, 832, 833, 834, 835, 836] (by decide +kernel) (by decide +kernel)
set_option maxRecDepth 20000 in
theorem pgX14_cook_3 : GoodIn wsL_law wsX14_cook_r3 := goodIn_r _ [837, 838, 839, 1221, 1222, 1223, 1224, 1225, 1226, 1227, 899, 900, 901, 902, 903, 904, 905, 557, 558, 559, 560, 631, 632, 633] (by decide +kernel) (by decide +kernel)
set_option maxRecDepth 20000 in
theorem pgX14_cook_4 : GoodIn wsL_law wsX14_cook_r4 := goodIn_r _ [1047, 1048, 1049, 1050, 1228, 1229, 1230, 1231, 1103, 1104, 1105, 1106, 1232, 1233, 1234, 1235, 1236, 1237, 1238, 1239, 872, 873, 874, 875] (by decide +kernel) (by decide +kernel)
set_option maxRecDepth 20000 in
theorem pgX14_cook_5 : GoodIn wsL_law wsX14_cook_r5 := goodIn_r _ [876, 877, 1075, 1076, 1077, 1078, 1240, 1241, 1242, 1243, 1244, 1245, 1246, 1247] (by decide +kernel) (by decide +kernel)
set_option maxRecDepth 20000 in
theorem ggL_law_X14_cook : GoodIn wsL_law wsX14_cook := goodIn_ca (goodIn_ca (goodIn_ca pgX14_cook_1 (goodIn_app pgX14_cook_2 (goodIn_app pgX14_cook_3 (goodIn_app pgX14_cook_4 (pgX14_cook_5))))) pgx_X14) pgx_X13
set_option maxRecDepth 20000 in
theorem gL_law_X14_cook : GoodIn wsL_law (wsV RL 228 RX14 yX14_cook wsX14_cook) := goodIn_app (goodIn_of _ (by decide +kernel)) ggL_law_X14_cook
set_option maxRecDepth 20000 in
theorem pgL_minutesOfRecipe_1 : GoodIn wsL_law (Cond.codeWith yL_minutesOfRecipe cL_minutesOfRecipe 4 (some .int) [(0, 9, 12, 24)] :: wsL_minutesOfRecipe_r1) := goodIn_r _ [1250, 748, 1251, 1252, 1253, 2, 1254, 29, 24, 30, 1114, 1115, 1116, 1117, 941, 942, 943, 757, 758, 1255, 1256, 1257, 23, 1258, 79] (by decide +kernel) (by decide +kernel)
set_option maxRecDepth 20000 in
theorem pgL_minutesOfRecipe_2 : GoodIn wsL_law wsL_minutesOfRecipe_r2 := goodIn_r _ [424, 80, 81, 425, 426, 427, 428, 429, 75, 76, 77, 430, 431, 432, 74, 433, 434, 435, 436, 437, 438, 71, 1259, 1260] (by decide +kernel) (by decide +kernel)
set_option maxRecDepth 20000 in
theorem pgL_minutesOfRecipe_3 : GoodIn wsL_law wsL_minutesOfRecipe_r3 := goodIn_r _ [1261, 83, 1262, 827, 443, 444, 91, 445, 1118, 1119, 1120, 27, 1121, 1122, 96, 97, 1123, 1124, 1125, 46, 1126, 65, 1127, 1128] (by decide +kernel) (by decide +kernel)
set_option maxRecDepth 20000 in
theorem pgL_minutesOfRecipe_4 : GoodIn wsL_law wsL_minutesOfRecipe_r4 := goodIn_r _ [1129, 1130, 1131, 1132, 1133, 1134, 1135, 1136, 347, 348, 349, 350, 351, 352, 1137, 1138, 1139, 1140, 1141, 1142, 1143, 1144, 1145, 1146] (by decide +kernel) (by decide +kernel)
set_option maxRecDepth 20000 in
theorem pgL_minutesOfRecipe_5 : GoodIn wsL_law wsL_minutesOfRecipe_r5 := goodIn_r _ [1147, 1148, 1149, 1150, 893, 894, 1151, 704, 705, 706, 707, 708, 709, 1152, 1153, 1154, 1155, 1156, 824, 825, 826, 1157, 1158, 1159] (by decide +kernel) (by decide +kernel)
set_option maxRecDepth 20000 in
theorem pgL_minutesOfRecipe_6 : GoodIn wsL_law wsL_minutesOfRecipe_r6 := goodIn_r _ [1160, 1161, 886, 887, 888, 889, 890, 891, 558, 559, 560, 892, 632, 633, 1162, 1030, 1031, 1032, 1033, 1034, 1035, 1036, 1037, 1038] (by decide +kernel) (by decide +kernel)
set_option maxRecDepth 20000 in
theorem pgL_minutesOfRecipe_7 : GoodIn wsL_law wsL_minutesOfRecipe_r7 := goodIn_r _ [1163, 1164, 1165, 1166, 1167, 1168, 1169, 1170, 1171, 1172, 1173, 1174, 87, 948, 949, 950, 951, 1175, 1087, 1088, 1089, 1090, 1091, 1092] (by decide +kernel) (by decide +kernel)
set_option maxRecDepth 20000 in
theorem pgL_minutesOfRecipe_8 : GoodIn wsL_law wsL_minutesOfRecipe_r8 := goodIn_r _ [1093, 1094, 1176, 1177, 1178, 1179, 1180, 1181, 1182, 1183, 1184, 1185, 1186, 863, 864, 865, 866, 867, 1187, 1188, 1189, 1190, 1191, 1192] (by decide +kernel) (by decide +kernel)
set_option maxRecDepth 20000 in
theorem pgL_minutesOfRecipe_9 : GoodIn wsL_law wsL_minutesOfRecipe_r9 := goodIn_r _ [440, 441, 442, 1193, 1194] (by decide +kernel) (by decide +kernel)
set_option maxRecDepth 20000 in
theorem ggL_law_L_minutesOfRecipe : GoodIn wsL_law wsL_minutesOfRecipe := goodIn_ca (goodIn_ca (goodIn_ca (goodIn_ca (goodIn_ca (goodIn_ca (goodIn_ca (goodIn_ca (goodIn_ca (goodIn_ca pgL_minutesOfRecipe_1 (goodIn_app pgL_minutesOfRecipe_2 (goodIn_app pgL_minutesOfRecipe_3 (goodIn_app pgL_minutesOfRecipe_4 (goodIn_app pgL_minutesOfRecipe_5 (goodIn_app pgL_minutesOfRecipe_6 (goodIn_app pgL_minutesOfRecipe_7 (goodIn_app pgL_minutesOfRecipe_8 (pgL_minutesOfRecipe_9))))))))) pgx_X12) pgx_X6) pgx_X2) pgx_X4) pgx_X7) pgx_X3) pgx_X1) pgx_X11) pgt_229
set_option maxRecDepth 20000 in
theorem gL_law_L_minutesOfRecipe : GoodIn wsL_law (va_wsS RL 229 yL_minutesOfRecipe wsL_minutesOfRecipe) := goodIn_app (goodIn_of _ (by decide +kernel)) ggL_law_L_minutesOfRecipe
set_option maxRecDepth 20000 in
theorem pgX14_minutesOfRecipe_1 : GoodIn wsL_law (Cond.code yX14_minutesOfRecipe cX14_minutesOfRecipe 2 (some .int) :: wsX14_minutesOfRecipe_r1) := goodIn_r _ [1266, 1267, 1268, 1269, 5, 1270, 163, 115, 1199, 1200, 1201, 1202, 113, 190, 191, 192, 165, 166, 167, 168, 1271, 1272, 1273, 1274, 116] (by decide +kernel) (by decide +kernel)
set_option maxRecDepth 20000 in
theorem pgX14_minutesOfRecipe_2 : GoodIn wsL_law wsX14_minutesOfRecipe_r2 := goodIn_r _ [1275, 652, 653, 654, 1203, 1204, 1205, 1206, 1207, 1208, 1209, 1210, 1211, 1212, 1213, 1214, 1215, 1216, 1217, 1218, 1219, 1220, 714, 715] (by decide +kernel) (by decide +kernel)
set_option maxRecDepth 20000 in
theorem pgX14_minutesOfRecipe_3 : GoodIn wsL_law wsX14_minutesOfRecipe_r3 := goodIn_r _ [716, 717, 718, 719, 720, 140, 141, 142, 832, 833, 834, 835, 836, 837, 838, 839, 1221, 1222, 1223, 1224, 1225, 1226, 1227, 899] (by decide +kernel) (by decide +kernel)
set_option maxRecDepth 20000 in
theorem pgX14_minutesOfRecipe_4 : GoodIn wsL_law wsX14_minutesOfRecipe_r4 := goodIn_r _ [900, 901, 902, 903, 904, 905, 557, 558, 559, 560, 631, 632, 633, 1047, 1048, 1049, 1050, 1228, 1229, 1230, 1231, 1103, 1104, 1105] (by decide +kernel) (by decide +kernel)
set_option maxRecDepth 20000 in
theorem pgX14_minutesOfRecipe_5 : GoodIn wsL_law wsX14_minutesOfRecipe_r5 := goodIn_r _ [1106, 1232, 1233, 1234, 1235, 1236, 1237, 1238, 1239, 872, 873, 874, 875, 876, 877, 1075, 1076, 1077, 1078, 1240, 1241, 1242, 1243, 1244] (by decide +kernel) (by decide +kernel)
set_option maxRecDepth 20000 in
theorem pgX14_minutesOfRecipe_6 : GoodIn wsL_law wsX14_minutesOfRecipe_r6 := goodIn_r _ [1245, 1246, 1247, 1276, 1277, 1278, 1279] (by decide +kernel) (by decide +kernel)
set_option maxRecDepth 20000 in
theorem ggL_law_X14_minutesOfRecipe : GoodIn wsL_law wsX14_minutesOfRecipe := goodIn_ca (goodIn_ca (goodIn_ca pgX14_minutesOfRecipe_1 (goodIn_app pgX14_minutesOfRecipe_2 (goodIn_app pgX14_minutesOfRecipe_3 (goodIn_app pgX14_minutesOfRecipe_4 (goodIn_app pgX14_minutesOfRecipe_5 (pgX14_minutesOfRecipe_6)))))) pgx_X14) pgx_X13
set_option maxRecDepth 20000 in
theorem gL_law_X14_minutesOfRecipe : GoodIn wsL_law (wsV RL 231 RX14 yX14_minutesOfRecipe wsX14_minutesOfRecipe) := goodIn_app (goodIn_of _ (by decide +kernel)) ggL_law_X14_minutesOfRecipe
set_option maxRecDepth 20000 in
theorem pgL_warningsOfRecipe_1 : GoodIn wsL_law (Cond.codeWith yL_warningsOfRecipe cL_warningsOfRecipe 4 (some .int) [(0, 9, 12, 24)] :: wsL_warningsOfRecipe_r1) := goodIn_r _ [1282, 748, 1283, 1284, 1285, 2, 1286, 29, 24, 30, 1114, 1115, 1116, 1117, 941, 942, 943, 757, 758, 1255, 1256, 1257, 23, 1258, 79] (by decide +kernel) (by decide +kernel)
set_option maxRecDepth 20000 in
theorem pgL_warningsOfRecipe_2 : GoodIn wsL_law wsL_warningsOfRecipe_r2 := goodIn_r _ [424, 80, 81, 425, 426, 427, 428, 429, 75, 76, 77, 430, 431, 432, 74, 433, 434, 435, 436, 437, 438, 71, 1259, 1260] (by decide +kernel) (by decide +kernel)
set_option maxRecDepth 20000 in
theorem pgL_warningsOfRecipe_3 : GoodIn wsL_law wsL_warningsOfRecipe_r3 := goodIn_r _ [1261, 83, 1262, 827, 443, 444, 91, 445, 1118, 1119, 1120, 27, 1121, 1122, 96, 97, 1123, 1124, 1125, 46, 1126, 65, 1127, 1128] (by decide +kernel) (by decide +kernel)
set_option maxRecDepth 20000 in
theorem pgL_warningsOfRecipe_4 : GoodIn wsL_law wsL_warningsOfRecipe_r4 := goodIn_r _ [1129, 1130, 1131, 1132, 1133, 1134, 1135, 1136, 347, 348, 349, 350, 351, 352, 1137, 1138, 1139, 1140, 1141, 1142, 1143, 1144, 1145, 1146] (by decide +kernel) (by decide +kernel)
set_option maxRecDepth 20000 in
theorem pgL_warningsOfRecipe_5 : GoodIn wsL_law wsL_warningsOfRecipe_r5 := goodIn_r _ [1147, 1148, 1149, 1150, 893, 894, 1151, 704, 705, 706, 707, 708, 709, 1152, 1153, 1154, 1155, 1156, 824, 825, 826, 1157, 1158, 1159] (by decide +kernel) (by decide +kernel)
set_option maxRecDepth 20000 in
theorem pgL_warningsOfRecipe_6 : GoodIn wsL_law wsL_warningsOfRecipe_r6 := goodIn_r _ [1160, 1161, 886, 887, 888, 889, 890, 891, 558, 559, 560, 892, 632, 633, 1162, 1030, 1031, 1032, 1033, 1034, 1035, 1036, 1037, 1038] (by decide +kernel) (by decide +kernel)
set_option maxRecDepth 20000 in
theorem pgL_warningsOfRecipe_7 : GoodIn wsL_law wsL_warningsOfRecipe_r7 := goodIn_r _ [1163, 1164, 1165, 1166, 1167, 1168, 1169, 1170, 1171, 1172, 1173, 1174, 87, 948, 949, 950, 951, 1175, 1087, 1088, 1089, 1090, 1091, 1092] (by decide +kernel) (by decide +kernel)
set_option maxRecDepth 20000 in
theorem pgL_warningsOfRecipe_8 : GoodIn wsL_law wsL_warningsOfRecipe_r8 := goodIn_r _ [1093, 1094, 1176, 1177, 1178, 1179, 1180, 1181, 1182, 1183, 1184, 1185, 1186, 863, 864, 865, 866, 867, 1187, 1188, 1189, 1190, 1191, 1192] (by decide +kernel) (by decide +kernel)
set_option maxRecDepth 20000 in
theorem pgL_warningsOfRecipe_9 : GoodIn wsL_law wsL_warningsOfRecipe_r9 := goodIn_r _ [440, 441, 442, 1193, 1194] (by decide +kernel) (by decide +kernel)
set_option maxRecDepth 20000 in
theorem ggL_law_L_warningsOfRecipe : GoodIn wsL_law wsL_warningsOfRecipe := goodIn_ca (goodIn_ca (goodIn_ca (goodIn_ca (goodIn_ca (goodIn_ca (goodIn_ca (goodIn_ca (goodIn_ca (goodIn_ca pgL_warningsOfRecipe_1 (goodIn_app pgL_warningsOfRecipe_2 (goodIn_app pgL_warningsOfRecipe_3 (goodIn_app pgL_warningsOfRecipe_4 (goodIn_app pgL_warningsOfRecipe_5 (goodIn_app pgL_warningsOfRecipe_6 (goodIn_app pgL_warningsOfRecipe_7 (goodIn_app pgL_warningsOfRecipe_8 (pgL_warningsOfRecipe_9))))))))) pgx_X12) pgx_X6) pgx_X4) pgx_X2) pgx_X7) pgx_X3) pgx_X1) pgx_X11) pgt_229
set_option maxRecDepth 20000 in
theorem gL_law_L_warningsOfRecipe : GoodIn wsL_law (va_wsS RL 232 yL_warningsOfRecipe wsL_warningsOfRecipe) := goodIn_app (goodIn_of _ (by decide +kernel)) ggL_law_L_warningsOfRecipe
set_option maxRecDepth 20000 in
theorem pgX14_warningsOfRecipe_1 : GoodIn wsL_law (Cond.code yX14_warningsOfRecipe cX14_warningsOfRecipe 2 (some .int) :: wsX14_warningsOfRecipe_r1) := goodIn_r _ [1290, 1267, 1268, 1269, 5, 1270, 163, 115, 1199, 1200, 1201, 1202, 113, 190, 191, 192, 165, 166, 167, 168, 1271, 1272, 1273, 1274, 116] (by decide +kernel) (by decide +kernel)
set_option maxRecDepth 20000 in
theorem pgX14_warningsOfRecipe_2 : GoodIn wsL_law wsX14_warningsOfRecipe_r2 := goodIn_r _ [1275, 652, 653, 654, 1203, 1204, 1205, 1206, 1207, 1208, 1209, 1210, 1211, 1212, 1213, 1214, 1215, 1216, 1217, 1218, 1219, 1220, 714, 715] (by decide +kernel) (by decide +kernel)
set_option maxRecDepth 20000 in
theorem pgX14_warningsOfRecipe_3 : GoodIn wsL_law wsX14_warningsOfRecipe_r3 := goodIn_r _ [716, 717, 718, 719, 720, 140, 141, 142, 832, 833, 834, 835, 836, 837, 838, 839, 1221, 1222, 1223, 1224, 1225, 1226, 1227, 899] (by decide +kernel) (by decide +kernel)
set_option maxRecDepth 20000 in
theorem pgX14_warningsOfRecipe_4 : GoodIn wsL_law wsX14_warningsOfRecipe_r4 := goodIn_r _ [900, 901, 902, 903, 904, 905, 557, 558, 559, 560, 631, 632, 633, 1047, 1048, 1049, 1050, 1228, 1229, 1230, 1231, 1103, 1104, 1105] (by decide +kernel) (by decide +kernel)
set_option maxRecDepth 20000 in
theorem pgX14_warningsOfRecipe_5 : GoodIn wsL_law wsX14_warningsOfRecipe_r5 := goodIn_r _ [1106, 1232, 1233, 1234, 1235, 1236, 1237, 1238, 1239, 872, 873, 874, 875, 876, 877, 1075, 1076, 1077, 1078, 1240, 1241, 1242, 1243, 1244] (by decide +kernel) (by decide +kernel)
set_option maxRecDepth 20000 in
theorem pgX14_warningsOfRecipe_6 : GoodIn wsL_law wsX14_warningsOfRecipe_r6 := goodIn_r _ [1245, 1246, 1247, 1276, 1277, 1278, 1279] (by decide +kernel) (by decide +kernel)
set_option maxRecDepth 20000 in
theorem ggL_law_X14_warningsOfRecipe : GoodIn wsL_law wsX14_warningsOfRecipe := goodIn_ca (goodIn_ca (goodIn_ca pgX14_warningsOfRecipe_1 (goodIn_app pgX14_warningsOfRecipe_2 (goodIn_app pgX14_warningsOfRecipe_3 (goodIn_app pgX14_warningsOfRecipe_4 (goodIn_app pgX14_warningsOfRecipe_5 (pgX14_warningsOfRecipe_6)))))) pgx_X14) pgx_X13
set_option maxRecDepth 20000 in
theorem gL_law_X14_warningsOfRecipe : GoodIn wsL_law (wsV RL 234 RX14 yX14_warningsOfRecipe wsX14_warningsOfRecipe) := goodIn_app (goodIn_of _ (by decide +kernel)) ggL_law_X14_warningsOfRecipe
