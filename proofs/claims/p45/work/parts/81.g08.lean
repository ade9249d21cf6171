set_option maxRecDepth 20000 in
theorem pgL_law_L_act_11 : GoodIn wsL_law wsL_act_r12 := goodIn_r _ [977, 978, 979, 980, 981, 982, 983, 984, 985, 986, 987, 988, 989, 153, 990, 991, 992, 993, 994, 995, 996, 997, 998, 999] (by decide +kernel) (by decide +kernel)
set_option maxRecDepth 20000 in
theorem pgL_law_L_act_12 : GoodIn wsL_law wsL_act_r13 := goodIn_r _ [1000, 156, 1001, 1002, 1003, 1004, 1005, 1006, 412, 1007, 432, 434, 435, 433, 1008, 1009, 1010, 1011, 1012, 1013, 1014, 1015, 1016, 1017] (by decide +kernel) (by decide +kernel)
set_option maxRecDepth 20000 in
theorem pgL_law_L_act_13 : GoodIn wsL_law wsL_act_r14 := goodIn_r _ [1018, 1019, 148, 149, 1020, 1021, 1022, 1023, 1024, 1025, 1026, 1027, 154, 155, 1028, 1029, 1030, 1031, 1032, 1033, 1034, 1035, 1036, 1037] (by decide +kernel) (by decide +kernel)
set_option maxRecDepth 20000 in
theorem pgL_law_L_act_14 : GoodIn wsL_law wsL_act_r15 := goodIn_r _ [1038, 1039, 1040, 1041, 399, 1042, 413, 414, 415, 1043] (by decide +kernel) (by decide +kernel)
set_option maxRecDepth 20000 in
theorem pgL_law_L_act_15 : GoodIn wsL_law wsX150 := goodIn_r _ [1238, 1239, 1240, 1241, 1242, 1243, 1244, 1245, 1246, 1247, 1248, 1249] (by decide +kernel) (by decide +kernel)
set_option maxRecDepth 20000 in
theorem pgL_law_L_act_16 : GoodIn wsL_law wsX140 := goodIn_r _ [1233] (by decide +kernel) (by decide +kernel)
set_option maxRecDepth 20000 in
theorem pgL_law_L_act_17 : GoodIn wsL_law wsX120 := goodIn_r _ [1226, 1227, 1228, 1229, 1230, 1231, 1232] (by decide +kernel) (by decide +kernel)
set_option maxRecDepth 20000 in
theorem pgL_law_L_act_18 : GoodIn wsL_law wsX60 := goodIn_r _ [1256, 1257, 1258, 1259, 1260, 1261, 1262, 1263, 1264] (by decide +kernel) (by decide +kernel)
set_option maxRecDepth 20000 in
theorem pgL_law_L_act_19 : GoodIn wsL_law wsX20 := goodIn_r _ [1274, 1275, 1276, 1277, 1278, 1279, 1280] (by decide +kernel) (by decide +kernel)
set_option maxRecDepth 20000 in
theorem pgL_law_L_act_20 : GoodIn wsL_law wsX70 := goodIn_r _ [1283, 1284, 1285, 1286, 1287] (by decide +kernel) (by decide +kernel)
set_option maxRecDepth 20000 in
theorem pgL_law_L_act_21 : GoodIn wsL_law wsX30 := goodIn_r _ [1265, 1266, 1267] (by decide +kernel) (by decide +kernel)
set_option maxRecDepth 20000 in
theorem pgL_law_L_act_22 : GoodIn wsL_law wsX10 := goodIn_r _ [1304, 1305, 1306, 1307, 1308, 1309, 1310, 1311, 1312] (by decide +kernel) (by decide +kernel)
