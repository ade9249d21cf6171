set_option maxRecDepth 20000 in
theorem pgL_law_X12_doneBehind_8 : GoodIn wsL_law wsX12_doneBehind_r9 := goodIn_r _ [823] (by decide +kernel) (by decide +kernel)
set_option maxRecDepth 20000 in
theorem pgL_law_X12_doneBehind_9 : GoodIn wsL_law wsX120 := goodIn_r _ [1226, 1227, 1228, 1229, 1230, 1231, 1232] (by decide +kernel) (by decide +kernel)
set_option maxRecDepth 20000 in
theorem pgL_law_X12_doneBehind_10 : GoodIn wsL_law wsX60 := goodIn_r _ [1256, 1257, 1258, 1259, 1260, 1261, 1262, 1263, 1264] (by decide +kernel) (by decide +kernel)
set_option maxRecDepth 20000 in
theorem pgL_law_X12_doneBehind_11 : GoodIn wsL_law wsX20 := goodIn_r _ [1274, 1275, 1276, 1277, 1278, 1279, 1280] (by decide +kernel) (by decide +kernel)
set_option maxRecDepth 20000 in
theorem pgL_law_X12_doneBehind_12 : GoodIn wsL_law wsX70 := goodIn_r _ [1283, 1284, 1285, 1286, 1287] (by decide +kernel) (by decide +kernel)
set_option maxRecDepth 20000 in
theorem pgL_law_X12_doneBehind_13 : GoodIn wsL_law wsX40 := goodIn_r _ [1281, 1282] (by decide +kernel) (by decide +kernel)
set_option maxRecDepth 20000 in
theorem pgL_law_X12_doneBehind_14 : GoodIn wsL_law wsX30 := goodIn_r _ [1265, 1266, 1267] (by decide +kernel) (by decide +kernel)
set_option maxRecDepth 20000 in
theorem pgL_law_X12_doneBehind_15 : GoodIn wsL_law wsX10 := goodIn_r _ [1304, 1305, 1306, 1307, 1308, 1309, 1310, 1311, 1312] (by decide +kernel) (by decide +kernel)
set_option maxRecDepth 20000 in
theorem pgL_law_X12_doneBehind_16 : GoodIn wsL_law wsX110 := goodIn_r _ [1313, 1314, 1315, 1316, 1317] (by decide +kernel) (by decide +kernel)
set_option maxRecDepth 20000 in
theorem ggL_law_X12_doneBehind : GoodIn wsL_law wsX12_doneBehind := goodIn_ca (goodIn_ca (goodIn_ca (goodIn_ca (goodIn_ca (goodIn_ca (goodIn_ca (goodIn_ca (goodIn_ca (goodIn_ca pgL_law_X12_doneBehind_0 (goodIn_app pgL_law_X12_doneBehind_1 (goodIn_app pgL_law_X12_doneBehind_2 (goodIn_app pgL_law_X12_doneBehind_3 (goodIn_app pgL_law_X12_doneBehind_4 (goodIn_app pgL_law_X12_doneBehind_5 (goodIn_app pgL_law_X12_doneBehind_6 (goodIn_app pgL_law_X12_doneBehind_7 (pgL_law_X12_doneBehind_8))))))))) pgL_law_X12_doneBehind_9) pgL_law_X12_doneBehind_10) pgL_law_X12_doneBehind_11) pgL_law_X12_doneBehind_12) pgL_law_X12_doneBehind_13) pgL_law_X12_doneBehind_14) pgL_law_X12_doneBehind_15) pgL_law_X12_doneBehind_16) (goodIn_sub (fun _ h => List.mem_append_right _ h) (by decide +kernel))
set_option maxRecDepth 20000 in
theorem gL_law_X12_doneBehind : GoodIn wsL_law (wsV RL 239 RX12 yX12_doneBehind wsX12_doneBehind) := goodIn_app (goodIn_of _ (by decide +kernel)) ggL_law_X12_doneBehind
set_option maxRecDepth 20000 in
theorem ggL_law_X12_minute : GoodIn wsL_law wsX12_minute := goodIn_r _ [1180, 32, 1226, 1227, 1228, 1229, 1230, 1231, 1232, 1256, 1257, 1258, 1259, 1260, 1261, 1262, 1263, 1264] (by decide +kernel) (by decide +kernel)
