set_option maxRecDepth 20000 in
theorem gL_law_X12_rest : GoodIn wsL_law (wsV RL 138 RX12 yX12_rest wsX12_rest) := goodIn_app (goodIn_of _ (by decide +kernel)) ggL_law_X12_rest
set_option maxRecDepth 20000 in
theorem ggL_law_X15_goBy : GoodIn wsL_law wsX15_goBy := goodIn_r _ [861, 862, 151, 1238, 1239, 1240, 1241, 1242, 1243, 1244, 1245, 1246, 1247, 1248, 1249] (by decide +kernel) (by decide +kernel)
set_option maxRecDepth 20000 in
theorem gL_law_X15_goBy : GoodIn wsL_law (wsV RL 134 RX15 yX15_goBy wsX15_goBy) := goodIn_app (goodIn_of _ (by decide +kernel)) ggL_law_X15_goBy
set_option maxRecDepth 20000 in
theorem ggL_law_X15_isSame : GoodIn wsL_law wsX15_isSame := goodIn_ca (goodIn_ca (goodIn_r _ [1188, 151, 154, 155, 156, 153, 784, 148, 149, 862, 1001, 1189, 1116, 1117, 2, 1118, 817, 818, 819, 820, 821, 822, 32, 823, 757, 758, 31, 759, 87, 79, 1190, 1103, 1104, 1105, 1191, 1107, 1108, 1109, 1192, 1099, 1100, 1101, 1193, 1120, 1121, 1122, 1194, 1111, 1112, 1113, 1114, 830, 831, 91, 832, 833, 764, 765, 844, 845, 846, 140, 847, 1195, 1073, 1074, 1075, 509, 510, 511, 512, 513, 1053, 1054, 1055, 1056, 85, 1196, 1095, 1096, 1097, 1063, 1064, 1065, 82, 1066, 755, 1067, 10, 11, 12, 888, 889, 890, 1068, 1069, 1070, 1071, 95, 955, 956, 957, 958, 1197, 1198, 1199, 1200, 1201, 1202, 399, 1203, 416, 417, 1204, 1205, 772, 773, 774, 1206, 1142, 1143, 1144, 1207, 1208, 1209, 1210, 1211, 1086, 1087, 1088, 1212, 1081, 1082, 1083, 1084, 799, 800, 801, 745, 802, 803, 804, 785, 786, 787, 788, 1213, 1182, 1183, 1184, 1214, 1133, 1134, 1135, 1215, 1178, 1179, 1180, 1216, 1077, 1078, 1079, 1217, 1218, 1219, 1220, 1221, 1222, 1223, 1224, 1225, 1124, 1125, 1126, 1238, 1239, 1240, 1241, 1242, 1243, 1244, 1245, 1246, 1247, 1248, 1249, 1283, 1284, 1285, 1286, 1287, 1226, 1227, 1228, 1229, 1230, 1231, 1232, 1256, 1257, 1258, 1259, 1260, 1261, 1262, 1263, 1264, 1274, 1275, 1276, 1277, 1278, 1279, 1280, 1281, 1282, 1292, 1293, 1294, 1295, 1296, 1297, 1298, 1299] (by decide +kernel) (by decide +kernel)) (goodIn_sub (fun _ h => List.mem_append_right _ h) (by decide +kernel))) (goodIn_sub (fun _ h => List.mem_append_left _ (List.mem_append_right _ h)) (by decide +kernel))
set_option maxRecDepth 20000 in
theorem gL_law_X15_isSame : GoodIn wsL_law (wsV RL 247 RX15 yX15_isSame wsX15_isSame) := goodIn_app (goodIn_of _ (by decide +kernel)) ggL_law_X15_isSame
set_option maxRecDepth 20000 in
theorem pgL_law_J4_append_15ec4_0 : GoodIn wsL_law (Cond.code yJ4_append_15ec4 cJ4_append_15ec4 2 (some (.object "java/lang/StringBuilder")) :: wsJ4_append_15ec4_r1) := goodIn_r _ [168, 169, 170, 171, 172, 121, 173, 174, 175, 176, 177, 178, 179, 125, 180, 181, 182, 183, 184, 126, 185, 186, 187, 188, 189] (by decide +kernel) (by decide +kernel)
set_option maxRecDepth 20000 in
theorem pgL_law_J4_append_15ec4_1 : GoodIn wsL_law wsJ4_append_15ec4_r2 := goodIn_r _ [190, 191, 192, 193, 194, 195, 196, 11, 197, 198, 199, 200, 201, 202, 203, 204, 205, 206, 207, 208, 209, 210, 211, 43] (by decide +kernel) (by decide +kernel)
set_option maxRecDepth 20000 in
theorem pgL_law_J4_append_15ec4_2 : GoodIn wsL_law wsJ4_append_15ec4_r3 := goodIn_r _ [212, 10, 12, 213, 214, 215, 216, 217, 218, 219, 220, 221, 124, 222, 223, 129, 224, 225, 226, 227, 228, 229, 230, 231] (by decide +kernel) (by decide +kernel)
set_option maxRecDepth 20000 in
theorem pgL_law_J4_append_15ec4_3 : GoodIn wsL_law wsJ4_append_15ec4_r4 := goodIn_r _ [232, 233, 234, 235, 236, 237, 238, 239, 240, 241, 242, 243, 244, 245, 246, 247, 248, 249, 250, 251, 252, 253, 254, 255] (by decide +kernel) (by decide +kernel)
set_option maxRecDepth 20000 in
theorem pgL_law_J4_append_15ec4_4 : GoodIn wsL_law wsJ4_append_15ec4_r5 := goodIn_r _ [256, 257, 258, 259, 260, 261, 262, 263, 264, 265, 266, 267, 268, 269, 270, 271, 272, 127, 128, 130, 131, 132, 133, 134] (by decide +kernel) (by decide +kernel)
set_option maxRecDepth 20000 in
theorem pgL_law_J4_append_15ec4_5 : GoodIn wsL_law wsJ4_append_15ec4_r6 := goodIn_r _ [273, 274, 275, 276, 277, 278, 279, 280, 281, 282, 283, 284, 285, 286, 287, 288, 289, 290, 291, 292, 293, 294] (by decide +kernel) (by decide +kernel)
set_option maxRecDepth 20000 in
theorem pgL_law_J4_append_15ec4_6 : GoodIn wsL_law wsJ40 := goodIn_r _ [1234, 1235, 1236, 1237] (by decide +kernel) (by decide +kernel)
