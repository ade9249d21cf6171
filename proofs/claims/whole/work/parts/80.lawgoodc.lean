/-! the law's calls -/
set_option maxRecDepth 20000 in
theorem ggL_law_X14_warningAt : GoodIn wsL_law wsX14_warningAt := goodIn_r _ [955, 115, 956, 957, 958, 5, 959, 163, 557, 558, 559, 560, 190, 191, 192, 165, 166, 167, 168, 1371, 1372, 1373, 1374, 1375, 1376, 1377, 1378, 1379, 1380, 1381, 1382, 1383, 1384, 1385, 1386, 1387, 1388, 1389, 1390, 1391, 1392, 1393] (by decide +kernel) (by decide +kernel)
set_option maxRecDepth 20000 in
theorem gL_law_X14_warningAt : GoodIn wsL_law (wsV RL 197 RX14 yX14_warningAt wsX14_warningAt) := goodIn_app (goodIn_of _ (by decide +kernel)) ggL_law_X14_warningAt
set_option maxRecDepth 20000 in
theorem ggL_law_X12_notes : GoodIn wsL_law wsX12_notes := goodIn_r _ [963, 24, 1364, 1365, 1366, 1367, 1368, 1369, 1370, 1400, 1401, 1402, 1403, 1404, 1405, 1406, 1407, 1408, 1425, 1426] (by decide +kernel) (by decide +kernel)
set_option maxRecDepth 20000 in
theorem gL_law_X12_notes : GoodIn wsL_law (wsV RL 198 RX12 yX12_notes wsX12_notes) := goodIn_app (goodIn_of _ (by decide +kernel)) ggL_law_X12_notes
set_option maxRecDepth 20000 in
theorem ggL_law_X14_notes : GoodIn wsL_law wsX14_notes := goodIn_r _ [967, 115, 663, 664, 665, 5, 666, 163, 1371, 1372, 1373, 1374, 1375, 1376, 1377, 1378, 1379, 1380, 1381, 1382, 1383, 1384, 1385, 1386, 1387, 1388, 1389, 1390, 1391, 1392, 1393] (by decide +kernel) (by decide +kernel)
set_option maxRecDepth 20000 in
theorem gL_law_X14_notes : GoodIn wsL_law (wsV RL 201 RX14 yX14_notes wsX14_notes) := goodIn_app (goodIn_of _ (by decide +kernel)) ggL_law_X14_notes
set_option maxRecDepth 20000 in
theorem pgL_noteAt_1 : GoodIn wsL_law (Cond.codeWith yL_noteAt cL_noteAt 4 (some .int) [(0, 9, 12, 24)] :: wsL_noteAt_r1) := goodIn_r _ [970, 748, 971, 972, 973, 2, 974, 24, 936, 937, 938, 74, 939, 434, 940, 558, 559, 560, 941, 942, 943, 757, 758, 944, 945] (by decide +kernel) (by decide +kernel)
set_option maxRecDepth 20000 in
theorem pgL_noteAt_2 : GoodIn wsL_law wsL_noteAt_r2 := goodIn_r _ [946, 947, 87, 948, 949, 950, 951] (by decide +kernel) (by decide +kernel)
set_option maxRecDepth 20000 in
theorem ggL_law_L_noteAt : GoodIn wsL_law wsL_noteAt := goodIn_ca (goodIn_ca (goodIn_ca (goodIn_ca (goodIn_ca pgL_noteAt_1 (pgL_noteAt_2)) pgx_X12) pgx_X6) pgx_X4) pgt_229
set_option maxRecDepth 20000 in
theorem gL_law_L_noteAt : GoodIn wsL_law (va_wsS RL 202 yL_noteAt wsL_noteAt) := goodIn_app (goodIn_of _ (by decide +kernel)) ggL_law_L_noteAt
set_option maxRecDepth 20000 in
theorem ggL_law_X14_noteAt : GoodIn wsL_law wsX14_noteAt := goodIn_r _ [978, 115, 956, 957, 958, 5, 959, 163, 557, 558, 559, 560, 190, 191, 192, 165, 166, 167, 168, 1371, 1372, 1373, 1374, 1375, 1376, 1377, 1378, 1379, 1380, 1381, 1382, 1383, 1384, 1385, 1386, 1387, 1388, 1389, 1390, 1391, 1392, 1393] (by decide +kernel) (by decide +kernel)
set_option maxRecDepth 20000 in
theorem gL_law_X14_noteAt : GoodIn wsL_law (wsV RL 204 RX14 yX14_noteAt wsX14_noteAt) := goodIn_app (goodIn_of _ (by decide +kernel)) ggL_law_X14_noteAt
set_option maxRecDepth 20000 in
theorem pgL_setAltitude_1 : GoodIn wsL_law (Cond.codeWith yL_setAltitude cL_setAltitude 4 (some .int) [(0, 9, 12, 19)] :: wsL_setAltitude_r1) := goodIn_r _ [981, 176, 982, 983, 984, 2, 985, 24, 181, 182, 183, 184, 185, 986, 987, 988, 23, 989, 424, 79, 990, 558, 559, 560, 435] (by decide +kernel) (by decide +kernel)
set_option maxRecDepth 20000 in
theorem pgL_setAltitude_2 : GoodIn wsL_law wsL_setAltitude_r2 := goodIn_r _ [436, 437, 438, 71, 991, 704, 705, 706, 707, 708, 709] (by decide +kernel) (by decide +kernel)
set_option maxRecDepth 20000 in
theorem ggL_law_L_setAltitude : GoodIn wsL_law wsL_setAltitude := goodIn_ca (goodIn_ca (goodIn_ca (goodIn_ca (goodIn_ca (goodIn_ca pgL_setAltitude_1 (pgL_setAltitude_2)) pgx_X12) pgx_X6) pgx_X2) pgx_X7) pgt_224
set_option maxRecDepth 20000 in
theorem gL_law_L_setAltitude : GoodIn wsL_law (va_wsS RL 205 yL_setAltitude wsL_setAltitude) := goodIn_app (goodIn_of _ (by decide +kernel)) ggL_law_L_setAltitude
set_option maxRecDepth 20000 in
theorem pgX14_setAltitude_1 : GoodIn wsL_law (Cond.code yX14_setAltitude cX14_setAltitude 3 (some .int) :: wsX14_setAltitude_r1) := goodIn_r _ [995, 163, 115, 852, 853, 5, 854, 190, 191, 192, 165, 166, 167, 168, 996, 997, 998, 999, 113, 557, 558, 559, 560, 140, 141] (by decide +kernel) (by decide +kernel)
set_option maxRecDepth 20000 in
theorem pgX14_setAltitude_2 : GoodIn wsL_law wsX14_setAltitude_r2 := goodIn_r _ [142, 714, 715, 716, 717, 718, 719, 720] (by decide +kernel) (by decide +kernel)
set_option maxRecDepth 20000 in
theorem ggL_law_X14_setAltitude : GoodIn wsL_law wsX14_setAltitude := goodIn_ca (goodIn_ca (goodIn_ca pgX14_setAltitude_1 (pgX14_setAltitude_2)) pgx_X14) pgx_X13
set_option maxRecDepth 20000 in
theorem gL_law_X14_setAltitude : GoodIn wsL_law (wsV RL 207 RX14 yX14_setAltitude wsX14_setAltitude) := goodIn_app (goodIn_of _ (by decide +kernel)) ggL_law_X14_setAltitude
set_option maxRecDepth 20000 in
theorem ggL_law_L_setServings : GoodIn wsL_law wsL_setServings := goodIn_ca (goodIn_r _ [1002, 176, 1003, 1004, 1005, 2, 1006, 24, 181, 182, 183, 184, 185, 1364, 1365, 1366, 1367, 1368, 1369, 1370, 1400, 1401, 1402, 1403, 1404, 1405, 1406, 1407, 1408] (by decide +kernel) (by decide +kernel)) (goodIn_sub (fun _ h => List.mem_append_left _ (List.mem_append_right _ h)) (by decide +kernel))
set_option maxRecDepth 20000 in
theorem gL_law_L_setServings : GoodIn wsL_law (va_wsS RL 208 yL_setServings wsL_setServings) := goodIn_app (goodIn_of _ (by decide +kernel)) ggL_law_L_setServings
set_option maxRecDepth 20000 in
theorem ggL_law_X14_setServings : GoodIn wsL_law wsX14_setServings := goodIn_r _ [1010, 163, 115, 190, 191, 5, 192, 165, 166, 167, 168, 1371, 1372, 1373, 1374, 1375, 1376, 1377, 1378, 1379, 1380, 1381, 1382, 1383, 1384, 1385, 1386, 1387, 1388, 1389, 1390, 1391, 1392, 1393] (by decide +kernel) (by decide +kernel)
set_option maxRecDepth 20000 in
theorem gL_law_X14_setServings : GoodIn wsL_law (wsV RL 210 RX14 yX14_setServings wsX14_setServings) := goodIn_app (goodIn_of _ (by decide +kernel)) ggL_law_X14_setServings
set_option maxRecDepth 20000 in
theorem ggL_law_L_setSpoon : GoodIn wsL_law wsL_setSpoon := goodIn_ca (goodIn_r _ [1013, 176, 1014, 1015, 1016, 2, 1017, 24, 181, 182, 183, 184, 185, 1364, 1365, 1366, 1367, 1368, 1369, 1370, 1400, 1401, 1402, 1403, 1404, 1405, 1406, 1407, 1408] (by decide +kernel) (by decide +kernel)) (goodIn_sub (fun _ h => List.mem_append_left _ (List.mem_append_right _ h)) (by decide +kernel))
set_option maxRecDepth 20000 in
theorem gL_law_L_setSpoon : GoodIn wsL_law (va_wsS RL 211 yL_setSpoon wsL_setSpoon) := goodIn_app (goodIn_of _ (by decide +kernel)) ggL_law_L_setSpoon
set_option maxRecDepth 20000 in
theorem ggL_law_X14_setSpoon : GoodIn wsL_law wsX14_setSpoon := goodIn_r _ [1021, 163, 115, 190, 191, 5, 192, 165, 166, 167, 168, 1371, 1372, 1373, 1374, 1375, 1376, 1377, 1378, 1379, 1380, 1381, 1382, 1383, 1384, 1385, 1386, 1387, 1388, 1389, 1390, 1391, 1392, 1393] (by decide +kernel) (by decide +kernel)
set_option maxRecDepth 20000 in
theorem gL_law_X14_setSpoon : GoodIn wsL_law (wsV RL 213 RX14 yX14_setSpoon wsX14_setSpoon) := goodIn_app (goodIn_of _ (by decide +kernel)) ggL_law_X14_setSpoon
set_option maxRecDepth 20000 in
theorem pgL_pourWater_1 : GoodIn wsL_law (Cond.codeWith yL_pourWater cL_pourWater 5 (some .int) [(0, 10, 13, 24), (0, 10, 17, 19)] :: wsL_pourWater_r1) := goodIn_r _ [1024, 748, 176, 1025, 1026, 1027, 2, 1028, 753, 754, 755, 756, 757, 758, 24, 759, 436, 437, 23, 438, 79, 71, 181, 182, 183] (by decide +kernel) (by decide +kernel)
set_option maxRecDepth 20000 in
theorem pgL_pourWater_2 : GoodIn wsL_law wsL_pourWater_r2 := goodIn_r _ [184, 185, 1029, 1030, 1031, 83, 1032, 1033, 558, 559, 560, 91, 445, 444, 443, 1034, 824, 825, 826, 827, 1035, 1036, 1037, 1038] (by decide +kernel) (by decide +kernel)
set_option maxRecDepth 20000 in
theorem pgL_pourWater_3 : GoodIn wsL_law wsL_pourWater_r3 := goodIn_r _ [893, 894] (by decide +kernel) (by decide +kernel)
set_option maxRecDepth 20000 in
theorem ggL_law_L_pourWater : GoodIn wsL_law wsL_pourWater := goodIn_ca (goodIn_ca (goodIn_ca (goodIn_ca (goodIn_ca (goodIn_ca (goodIn_ca pgL_pourWater_1 (goodIn_app pgL_pourWater_2 (pgL_pourWater_3))) pgx_X12) pgx_X6) pgx_X2) pgx_X7) pgt_229) pgt_224
set_option maxRecDepth 20000 in
theorem gL_law_L_pourWater : GoodIn wsL_law (va_wsS RL 214 yL_pourWater wsL_pourWater) := goodIn_app (goodIn_of _ (by decide +kernel)) ggL_law_L_pourWater
set_option maxRecDepth 20000 in
theorem pgX14_pourWater_1 : GoodIn wsL_law (Cond.code yX14_pourWater cX14_pourWater 3 (some .int) :: wsX14_pourWater_r1) := goodIn_r _ [1042, 1043, 1044, 1045, 5, 1046, 163, 764, 765, 766, 767, 113, 190, 191, 192, 165, 166, 167, 168, 1047, 1048, 1049, 1050, 557, 558] (by decide +kernel) (by decide +kernel)
set_option maxRecDepth 20000 in
theorem pgX14_pourWater_2 : GoodIn wsL_law wsX14_pourWater_r2 := goodIn_r _ [559, 560, 115, 832, 833, 834, 835, 836, 837, 838, 839, 140, 141, 142] (by decide +kernel) (by decide +kernel)
set_option maxRecDepth 20000 in
theorem ggL_law_X14_pourWater : GoodIn wsL_law wsX14_pourWater := goodIn_ca (goodIn_ca (goodIn_ca pgX14_pourWater_1 (pgX14_pourWater_2)) pgx_X14) pgx_X13
set_option maxRecDepth 20000 in
theorem gL_law_X14_pourWater : GoodIn wsL_law (wsV RL 216 RX14 yX14_pourWater wsX14_pourWater) := goodIn_app (goodIn_of _ (by decide +kernel)) ggL_law_X14_pourWater
set_option maxRecDepth 20000 in
theorem pgL_pourMeal_1 : GoodIn wsL_law (Cond.codeWith yL_pourMeal cL_pourMeal 5 (some .int) [(0, 10, 13, 24), (0, 10, 17, 19)] :: wsL_pourMeal_r1) := goodIn_r _ [1053, 748, 176, 1054, 1055, 1056, 2, 1057, 753, 754, 755, 756, 757, 758, 24, 759, 436, 437, 23, 438, 79, 71, 181, 182, 183] (by decide +kernel) (by decide +kernel)
set_option maxRecDepth 20000 in
theorem pgL_pourMeal_2 : GoodIn wsL_law wsL_pourMeal_r2 := goodIn_r _ [184, 185, 1029, 1030, 1031, 83, 1032, 1033, 558, 559, 560, 91, 445, 444, 443, 1034, 824, 825, 826, 827, 1035, 1036, 1037, 1038] (by decide +kernel) (by decide +kernel)
set_option maxRecDepth 20000 in
theorem pgL_pourMeal_3 : GoodIn wsL_law wsL_pourMeal_r3 := goodIn_r _ [893, 894] (by decide +kernel) (by decide +kernel)
set_option maxRecDepth 20000 in
theorem ggL_law_L_pourMeal : GoodIn wsL_law wsL_pourMeal := goodIn_ca (goodIn_ca (goodIn_ca (goodIn_ca (goodIn_ca (goodIn_ca (goodIn_ca pgL_pourMeal_1 (goodIn_app pgL_pourMeal_2 (pgL_pourMeal_3))) pgx_X12) pgx_X6) pgx_X2) pgx_X7) pgt_229) pgt_224
set_option maxRecDepth 20000 in
theorem gL_law_L_pourMeal : GoodIn wsL_law (va_wsS RL 217 yL_pourMeal wsL_pourMeal) := goodIn_app (goodIn_of _ (by decide +kernel)) ggL_law_L_pourMeal
set_option maxRecDepth 20000 in
theorem pgX14_pourMeal_1 : GoodIn wsL_law (Cond.code yX14_pourMeal cX14_pourMeal 3 (some .int) :: wsX14_pourMeal_r1) := goodIn_r _ [1061, 1043, 1044, 1045, 5, 1046, 163, 764, 765, 766, 767, 113, 190, 191, 192, 165, 166, 167, 168, 1047, 1048, 1049, 1050, 557, 558] (by decide +kernel) (by decide +kernel)
set_option maxRecDepth 20000 in
theorem pgX14_pourMeal_2 : GoodIn wsL_law wsX14_pourMeal_r2 := goodIn_r _ [559, 560, 115, 832, 833, 834, 835, 836, 837, 838, 839, 140, 141, 142] (by decide +kernel) (by decide +kernel)
set_option maxRecDepth 20000 in
theorem ggL_law_X14_pourMeal : GoodIn wsL_law wsX14_pourMeal := goodIn_ca (goodIn_ca (goodIn_ca pgX14_pourMeal_1 (pgX14_pourMeal_2)) pgx_X14) pgx_X13
set_option maxRecDepth 20000 in
theorem gL_law_X14_pourMeal : GoodIn wsL_law (wsV RL 219 RX14 yX14_pourMeal wsX14_pourMeal) := goodIn_app (goodIn_of _ (by decide +kernel)) ggL_law_X14_pourMeal
set_option maxRecDepth 20000 in
theorem pgL_wash_1 : GoodIn wsL_law (Cond.codeWith yL_wash cL_wash 4 (some .int) [(0, 9, 12, 24)] :: wsL_wash_r1) := goodIn_r _ [1064, 748, 1065, 1066, 1067, 2, 1068, 753, 754, 755, 756, 757, 758, 24, 759, 436, 437, 23, 438, 79, 71, 1069, 1036, 1037, 83] (by decide +kernel) (by decide +kernel)
set_option maxRecDepth 20000 in
theorem pgL_wash_2 : GoodIn wsL_law wsL_wash_r2 := goodIn_r _ [1038, 443, 444, 1070, 440, 441, 442, 91, 445] (by decide +kernel) (by decide +kernel)
set_option maxRecDepth 20000 in
theorem ggL_law_L_wash : GoodIn wsL_law wsL_wash := goodIn_ca (goodIn_ca (goodIn_ca (goodIn_ca (goodIn_ca (goodIn_ca pgL_wash_1 (pgL_wash_2)) pgx_X12) pgx_X6) pgx_X2) pgx_X7) pgt_229
set_option maxRecDepth 20000 in
theorem gL_law_L_wash : GoodIn wsL_law (va_wsS RL 220 yL_wash wsL_wash) := goodIn_app (goodIn_of _ (by decide +kernel)) ggL_law_L_wash
set_option maxRecDepth 20000 in
theorem pgX14_wash_1 : GoodIn wsL_law (Cond.code yX14_wash cX14_wash 3 (some .int) :: wsX14_wash_r1) := goodIn_r _ [1074, 163, 764, 765, 766, 5, 767, 113, 190, 191, 192, 165, 166, 167, 168, 836, 837, 838, 839, 115, 140, 141, 142, 1075, 1076] (by decide +kernel) (by decide +kernel)
set_option maxRecDepth 20000 in
theorem pgX14_wash_2 : GoodIn wsL_law wsX14_wash_r2 := goodIn_r _ [1077, 1078] (by decide +kernel) (by decide +kernel)
set_option maxRecDepth 20000 in
theorem ggL_law_X14_wash : GoodIn wsL_law wsX14_wash := goodIn_ca (goodIn_ca (goodIn_ca pgX14_wash_1 (pgX14_wash_2)) pgx_X14) pgx_X13
set_option maxRecDepth 20000 in
theorem gL_law_X14_wash : GoodIn wsL_law (wsV RL 222 RX14 yX14_wash wsX14_wash) := goodIn_app (goodIn_of _ (by decide +kernel)) ggL_law_X14_wash
set_option maxRecDepth 20000 in
theorem pgL_rest_1 : GoodIn wsL_law (Cond.codeWith yL_rest cL_rest 4 (some .int) [(0, 9, 12, 19)] :: wsL_rest_r1) := goodIn_r _ [1081, 176, 1082, 1083, 1084, 2, 1085, 24, 181, 182, 183, 184, 185, 1086, 1087, 1088, 23, 1089, 425, 79, 435, 436, 437, 438, 71] (by decide +kernel) (by decide +kernel)
set_option maxRecDepth 20000 in
theorem pgL_rest_2 : GoodIn wsL_law wsL_rest_r2 := goodIn_r _ [1090, 1091, 1092, 83, 1093, 91, 1094, 632, 559, 633, 1095, 1096, 1097, 1098] (by decide +kernel) (by decide +kernel)
set_option maxRecDepth 20000 in
theorem ggL_law_L_rest : GoodIn wsL_law wsL_rest := goodIn_ca (goodIn_ca (goodIn_ca (goodIn_ca (goodIn_ca (goodIn_ca pgL_rest_1 (pgL_rest_2)) pgx_X12) pgx_X6) pgx_X2) pgx_X7) pgt_224
set_option maxRecDepth 20000 in
theorem gL_law_L_rest : GoodIn wsL_law (va_wsS RL 223 yL_rest wsL_rest) := goodIn_app (goodIn_of _ (by decide +kernel)) ggL_law_L_rest
set_option maxRecDepth 20000 in
theorem ggL_law_X14_rest : GoodIn wsL_law wsX14_rest := goodIn_r _ [1102, 163, 113, 115, 190, 191, 5, 192, 165, 166, 167, 168, 1103, 1104, 1105, 1106, 631, 632, 559, 633, 140, 141, 142, 1371, 1372, 1373, 1374, 1375, 1376, 1377, 1378, 1379, 1380, 1381, 1382, 1383, 1384, 1385, 1386, 1387, 1388, 1389, 1390, 1391, 1392, 1393, 1432, 1433, 1434, 1435, 1436, 1437, 1438, 1439, 1440, 1441, 1442, 1443, 1444, 1445, 1446, 1447, 1448, 1449, 1450, 1451, 1452] (by decide +kernel) (by decide +kernel)
set_option maxRecDepth 20000 in
theorem gL_law_X14_rest : GoodIn wsL_law (wsV RL 225 RX14 yX14_rest wsX14_rest) := goodIn_app (goodIn_of _ (by decide +kernel)) ggL_law_X14_rest
set_option maxRecDepth 20000 in
theorem pgL_cook_1 : GoodIn wsL_law (Cond.codeWith yL_cook cL_cook 4 (some .int) [(0, 9, 12, 24)] :: wsL_cook_r1) := goodIn_r _ [1109, 748, 1110, 1111, 1112, 2, 1113, 28, 1114, 1115, 1116, 1117, 24, 941, 942, 943, 757, 758, 1118, 1119, 1120, 27, 1121, 1122, 96] (by decide +kernel) (by decide +kernel)
set_option maxRecDepth 20000 in
theorem pgL_cook_2 : GoodIn wsL_law wsL_cook_r2 := goodIn_r _ [97, 1123, 1124, 1125, 46, 1126, 65, 1127, 1128, 1129, 1130, 1131, 1132, 1133, 1134, 1135, 1136, 347, 348, 349, 350, 351, 352, 1137] (by decide +kernel) (by decide +kernel)
set_option maxRecDepth 20000 in
theorem pgL_cook_3 : GoodIn wsL_law wsL_cook_r3 := goodIn_r _ [1138, 1139, 1140, 1141, 1142, 1143, 1144, 1145, 1146, 1147, 1148, 1149, 1150, 893, 894, 1151, 704, 705, 23, 706, 424, 707, 708, 709] (by decide +kernel) (by decide +kernel)
set_option maxRecDepth 20000 in
theorem pgL_cook_4 : GoodIn wsL_law wsL_cook_r4 := goodIn_r _ [1152, 436, 437, 438, 79, 71, 1153, 1154, 1155, 1156, 824, 825, 83, 826, 827, 443, 444, 1157, 1158, 1159, 1160, 1161, 886, 887] (by decide +kernel) (by decide +kernel)
set_option maxRecDepth 20000 in
theorem pgL_cook_5 : GoodIn wsL_law wsL_cook_r5 := goodIn_r _ [888, 80, 81, 889, 890, 891, 558, 559, 560, 892, 632, 633, 1162, 1030, 1031, 1032, 1033, 91, 445, 1034, 1035, 1036, 1037, 1038] (by decide +kernel) (by decide +kernel)
set_option maxRecDepth 20000 in
theorem pgL_cook_6 : GoodIn wsL_law wsL_cook_r6 := goodIn_r _ [1163, 1164, 1165, 1166, 1167, 1168, 1169, 1170, 75, 77, 1171, 1172, 1173, 74, 1174, 434, 87, 948, 949, 950, 951, 1175, 1087, 1088] (by decide +kernel) (by decide +kernel)
set_option maxRecDepth 20000 in
theorem pgL_cook_7 : GoodIn wsL_law wsL_cook_r7 := goodIn_r _ [1089, 425, 435, 1090, 1091, 1092, 1093, 1094, 1176, 1177, 1178, 1179, 1180, 1181, 1182, 1183, 1184, 1185, 1186, 863, 864, 865, 866, 867] (by decide +kernel) (by decide +kernel)
set_option maxRecDepth 20000 in
theorem pgL_cook_8 : GoodIn wsL_law wsL_cook_r8 := goodIn_r _ [1187, 1188, 1189, 1190, 1191, 1192, 440, 441, 442, 1193, 1194] (by decide +kernel) (by decide +kernel)
set_option maxRecDepth 20000 in
theorem ggL_law_L_cook : GoodIn wsL_law wsL_cook := goodIn_ca (goodIn_ca (goodIn_ca (goodIn_ca (goodIn_ca (goodIn_ca (goodIn_ca (goodIn_ca (goodIn_ca (goodIn_ca pgL_cook_1 (goodIn_app pgL_cook_2 (goodIn_app pgL_cook_3 (goodIn_app pgL_cook_4 (goodIn_app pgL_cook_5 (goodIn_app pgL_cook_6 (goodIn_app pgL_cook_7 (pgL_cook_8)))))))) pgx_X12) pgx_X6) pgx_X2) pgx_X3) pgx_X1) pgx_X11) pgx_X7) pgx_X4) pgt_229
set_option maxRecDepth 20000 in
theorem gL_law_L_cook : GoodIn wsL_law (va_wsS RL 226 yL_cook wsL_cook) := goodIn_app (goodIn_of _ (by decide +kernel)) ggL_law_L_cook
