set_option maxRecDepth 20000 in
theorem ggL_law_X12_rest : GoodIn wsL_law wsX12_rest := goodIn_ca (goodIn_r _ [866, 32, 509, 510, 2, 511, 512, 513, 867, 868, 869, 31, 870, 746, 87, 756, 757, 758, 759, 79, 871, 872, 873, 91, 874, 99, 875, 196, 11, 197, 876, 877, 878, 879, 1226, 1227, 1228, 1229, 1230, 1231, 1232, 1256, 1257, 1258, 1259, 1260, 1261, 1262, 1263, 1264, 1274, 1275, 1276, 1277, 1278, 1279, 1280, 1283, 1284, 1285, 1286, 1287] (by decide +kernel) (by decide +kernel)) (goodIn_sub (fun _ h => List.mem_append_left _ (List.mem_append_right _ h)) (by decide +kernel))
set_option maxRecDepth 20000 in
theorem gL_law_X12_rest : GoodIn wsL_law (wsV RL 138 RX12 yX12_rest wsX12_rest) := goodIn_app (goodIn_of _ (by decide +kernel)) ggL_law_X12_rest
set_option maxRecDepth 20000 in
theorem ggL_law_X15_goBy : GoodIn wsL_law wsX15_goBy := goodIn_r _ [861, 862, 151, 1238, 1239, 1240, 1241, 1242, 1243, 1244, 1245, 1246, 1247, 1248, 1249] (by decide +kernel) (by decide +kernel)
set_option maxRecDepth 20000 in
theorem gL_law_X15_goBy : GoodIn wsL_law (wsV RL 134 RX15 yX15_goBy wsX15_goBy) := goodIn_app (goodIn_of _ (by decide +kernel)) ggL_law_X15_goBy
set_option maxRecDepth 20000 in
theorem pgL_law_X15_isSame_0 : GoodIn wsL_law (Cond.code yX15_isSame cX15_isSame 8 (some .boolean) :: wsX15_isSame_r1) := goodIn_r _ [1188, 151, 154, 155, 156, 153, 784, 148, 149, 862, 1001, 1189, 1116, 1117, 2, 1118, 817, 818, 819, 820, 821, 822, 32, 823, 757] (by decide +kernel) (by decide +kernel)
set_option maxRecDepth 20000 in
theorem pgL_law_X15_isSame_1 : GoodIn wsL_law wsX15_isSame_r2 := goodIn_r _ [758, 31, 759, 87, 79, 1190, 1103, 1104, 1105, 1191, 1107, 1108, 1109, 1192, 1099, 1100, 1101, 1193, 1120, 1121, 1122, 1194, 1111, 1112] (by decide +kernel) (by decide +kernel)
set_option maxRecDepth 20000 in
theorem pgL_law_X15_isSame_2 : GoodIn wsL_law wsX15_isSame_r3 := goodIn_r _ [1113, 1114, 830, 831, 91, 832, 833, 764, 765, 844, 845, 846, 140, 847, 1195, 1073, 1074, 1075, 509, 510, 511, 512, 513, 1053] (by decide +kernel) (by decide +kernel)
set_option maxRecDepth 20000 in
theorem pgL_law_X15_isSame_3 : GoodIn wsL_law wsX15_isSame_r4 := goodIn_r _ [1054, 1055, 1056, 85, 1196, 1095, 1096, 1097, 1063, 1064, 1065, 82, 1066, 755, 1067, 10, 11, 12, 888, 889, 890, 1068, 1069, 1070] (by decide +kernel) (by decide +kernel)
set_option maxRecDepth 20000 in
theorem pgL_law_X15_isSame_4 : GoodIn wsL_law wsX15_isSame_r5 := goodIn_r _ [1071, 95, 955, 956, 957, 958, 1197, 1198, 1199, 1200, 1201, 1202, 399, 1203, 416, 417, 1204, 1205, 772, 773, 774, 1206, 1142, 1143] (by decide +kernel) (by decide +kernel)
set_option maxRecDepth 20000 in
theorem pgL_law_X15_isSame_5 : GoodIn wsL_law wsX15_isSame_r6 := goodIn_r _ [1144, 1207, 1208, 1209, 1210, 1211, 1086, 1087, 1088, 1212, 1081, 1082, 1083, 1084, 799, 800, 801, 745, 802, 803, 804, 785, 786, 787] (by decide +kernel) (by decide +kernel)
set_option maxRecDepth 20000 in
theorem pgL_law_X15_isSame_6 : GoodIn wsL_law wsX15_isSame_r7 := goodIn_r _ [788, 1213, 1182, 1183, 1184, 1214, 1133, 1134, 1135, 1215, 1178, 1179, 1180, 1216, 1077, 1078, 1079, 1217, 1218, 1219, 1220, 1221, 1222, 1223] (by decide +kernel) (by decide +kernel)
set_option maxRecDepth 20000 in
theorem pgL_law_X15_isSame_7 : GoodIn wsL_law wsX15_isSame_r8 := goodIn_r _ [1224, 1225, 1124, 1125, 1126] (by decide +kernel) (by decide +kernel)
