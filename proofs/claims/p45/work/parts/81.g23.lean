set_option maxRecDepth 20000 in
theorem pgL_law_X12_cook_7 : GoodIn wsL_law wsX12_cook_r8 := goodIn_r _ [981, 761, 762, 763, 982, 983] (by decide +kernel) (by decide +kernel)
set_option maxRecDepth 20000 in
theorem pgL_law_X12_cook_8 : GoodIn wsL_law wsX120 := goodIn_r _ [1226, 1227, 1228, 1229, 1230, 1231, 1232] (by decide +kernel) (by decide +kernel)
set_option maxRecDepth 20000 in
theorem pgL_law_X12_cook_9 : GoodIn wsL_law wsX60 := goodIn_r _ [1256, 1257, 1258, 1259, 1260, 1261, 1262, 1263, 1264] (by decide +kernel) (by decide +kernel)
set_option maxRecDepth 20000 in
theorem pgL_law_X12_cook_10 : GoodIn wsL_law wsX20 := goodIn_r _ [1274, 1275, 1276, 1277, 1278, 1279, 1280] (by decide +kernel) (by decide +kernel)
set_option maxRecDepth 20000 in
theorem pgL_law_X12_cook_11 : GoodIn wsL_law wsX30 := goodIn_r _ [1265, 1266, 1267] (by decide +kernel) (by decide +kernel)
set_option maxRecDepth 20000 in
theorem pgL_law_X12_cook_12 : GoodIn wsL_law wsX10 := goodIn_r _ [1304, 1305, 1306, 1307, 1308, 1309, 1310, 1311, 1312] (by decide +kernel) (by decide +kernel)
set_option maxRecDepth 20000 in
theorem pgL_law_X12_cook_13 : GoodIn wsL_law wsX110 := goodIn_r _ [1313, 1314, 1315, 1316, 1317] (by decide +kernel) (by decide +kernel)
set_option maxRecDepth 20000 in
theorem pgL_law_X12_cook_14 : GoodIn wsL_law wsX70 := goodIn_r _ [1283, 1284, 1285, 1286, 1287] (by decide +kernel) (by decide +kernel)
set_option maxRecDepth 20000 in
theorem pgL_law_X12_cook_15 : GoodIn wsL_law wsX40 := goodIn_r _ [1281, 1282] (by decide +kernel) (by decide +kernel)
set_option maxRecDepth 20000 in
theorem ggL_law_X12_cook : GoodIn wsL_law wsX12_cook := goodIn_ca (goodIn_ca (goodIn_ca (goodIn_ca (goodIn_ca (goodIn_ca (goodIn_ca (goodIn_ca (goodIn_ca (goodIn_ca pgL_law_X12_cook_0 (goodIn_app pgL_law_X12_cook_1 (goodIn_app pgL_law_X12_cook_2 (goodIn_app pgL_law_X12_cook_3 (goodIn_app pgL_law_X12_cook_4 (goodIn_app pgL_law_X12_cook_5 (goodIn_app pgL_law_X12_cook_6 (pgL_law_X12_cook_7)))))))) pgL_law_X12_cook_8) pgL_law_X12_cook_9) pgL_law_X12_cook_10) pgL_law_X12_cook_11) pgL_law_X12_cook_12) pgL_law_X12_cook_13) pgL_law_X12_cook_14) pgL_law_X12_cook_15) (goodIn_sub (fun _ h => List.mem_append_right _ h) (by decide +kernel))
set_option maxRecDepth 20000 in
theorem gL_law_X12_cook : GoodIn wsL_law (wsV RL 141 RX12 yX12_cook wsX12_cook) := goodIn_app (goodIn_of _ (by decide +kernel)) ggL_law_X12_cook
set_option maxRecDepth 20000 in
theorem ggL_law_X15_climb : GoodIn wsL_law wsX15_climb := goodIn_r _ [783, 784, 151, 785, 786, 787, 140, 788, 1238, 1239, 1240, 1241, 1242, 1243, 1244, 1245, 1246, 1247, 1248, 1249] (by decide +kernel) (by decide +kernel)
