set_option maxRecDepth 20000 in
theorem pgL_law_L_taught_18 : GoodIn wsL_law wsX90 := goodIn_r _ [1250, 1251] (by decide +kernel) (by decide +kernel)
set_option maxRecDepth 20000 in
theorem pgL_law_L_taught_19 : GoodIn wsL_law wsX80 := goodIn_r _ [1252, 1253, 1254, 1255] (by decide +kernel) (by decide +kernel)
set_option maxRecDepth 20000 in
theorem pgL_law_L_taught_20 : GoodIn wsL_law wsX20 := goodIn_r _ [1274, 1275, 1276, 1277, 1278, 1279, 1280] (by decide +kernel) (by decide +kernel)
set_option maxRecDepth 20000 in
theorem pgL_law_L_taught_21 : GoodIn wsL_law wsX100 := goodIn_r _ [1268, 1269, 1270, 1271, 1272, 1273] (by decide +kernel) (by decide +kernel)
set_option maxRecDepth 20000 in
theorem pgL_law_L_taught_22 : GoodIn wsL_law wsX10 := goodIn_r _ [1304, 1305, 1306, 1307, 1308, 1309, 1310, 1311, 1312] (by decide +kernel) (by decide +kernel)
set_option maxRecDepth 20000 in
theorem pgL_law_L_taught_23 : GoodIn wsL_law wsX110 := goodIn_r _ [1313, 1314, 1315, 1316, 1317] (by decide +kernel) (by decide +kernel)
set_option maxRecDepth 20000 in
theorem pgL_law_L_taught_24 : GoodIn wsL_law wsX60 := goodIn_r _ [1256, 1257, 1258, 1259, 1260, 1261, 1262, 1263, 1264] (by decide +kernel) (by decide +kernel)
set_option maxRecDepth 20000 in
theorem pgL_law_L_taught_25 : GoodIn wsL_law wsX70 := goodIn_r _ [1283, 1284, 1285, 1286, 1287] (by decide +kernel) (by decide +kernel)
set_option maxRecDepth 20000 in
theorem pgL_law_L_taught_26 : GoodIn wsL_law wsX40 := goodIn_r _ [1281, 1282] (by decide +kernel) (by decide +kernel)
set_option maxRecDepth 20000 in
theorem ggL_law_L_taught : GoodIn wsL_law wsL_taught := goodIn_ca (goodIn_ca (goodIn_ca (goodIn_ca (goodIn_ca (goodIn_ca (goodIn_ca (goodIn_ca (goodIn_ca (goodIn_ca (goodIn_ca (goodIn_ca (goodIn_ca (goodIn_ca pgL_law_L_taught_0 (goodIn_app pgL_law_L_taught_1 (goodIn_app pgL_law_L_taught_2 (goodIn_app pgL_law_L_taught_3 (goodIn_app pgL_law_L_taught_4 (goodIn_app pgL_law_L_taught_5 (goodIn_app pgL_law_L_taught_6 (goodIn_app pgL_law_L_taught_7 (goodIn_app pgL_law_L_taught_8 (goodIn_app pgL_law_L_taught_9 (goodIn_app pgL_law_L_taught_10 (goodIn_app pgL_law_L_taught_11 (goodIn_app pgL_law_L_taught_12 (goodIn_app pgL_law_L_taught_13 (goodIn_app pgL_law_L_taught_14 (pgL_law_L_taught_15)))))))))))))))) pgL_law_L_taught_16) pgL_law_L_taught_17) pgL_law_L_taught_18) pgL_law_L_taught_19) pgL_law_L_taught_20) pgL_law_L_taught_21) pgL_law_L_taught_22) pgL_law_L_taught_23) pgL_law_L_taught_24) pgL_law_L_taught_25) pgL_law_L_taught_26) (goodIn_sub (fun _ h => List.mem_append_left _ (List.mem_append_left _ (List.mem_append_right _ h))) (by decide +kernel))) (goodIn_sub (fun _ h => List.mem_append_left _ (List.mem_append_right _ h)) (by decide +kernel))
set_option maxRecDepth 20000 in
theorem gL_law_L_taught : GoodIn wsL_law (va_wsS RL 156 yL_taught wsL_taught) := goodIn_app (goodIn_of _ (by decide +kernel)) ggL_law_L_taught
set_option maxRecDepth 20000 in
theorem ggL_law_X12_pans : GoodIn wsL_law wsX12_pans := goodIn_r _ [774, 32, 1226, 1227, 1228, 1229, 1230, 1231, 1232, 1256, 1257, 1258, 1259, 1260, 1261, 1262, 1263, 1264, 1274, 1275, 1276, 1277, 1278, 1279, 1280] (by decide +kernel) (by decide +kernel)
