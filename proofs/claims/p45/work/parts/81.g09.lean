set_option maxRecDepth 20000 in
theorem pgL_law_L_act_23 : GoodIn wsL_law wsX110 := goodIn_r _ [1313, 1314, 1315, 1316, 1317] (by decide +kernel) (by decide +kernel)
set_option maxRecDepth 20000 in
theorem pgL_law_L_act_24 : GoodIn wsL_law wsX40 := goodIn_r _ [1281, 1282] (by decide +kernel) (by decide +kernel)
set_option maxRecDepth 20000 in
theorem pgL_law_L_act_25 : GoodIn wsL_law wsX130 := goodIn_r _ [1292, 1293, 1294, 1295, 1296, 1297, 1298, 1299] (by decide +kernel) (by decide +kernel)
set_option maxRecDepth 20000 in
theorem pgL_law_L_act_26 : GoodIn wsL_law wsX160 := goodIn_r _ [1300, 1301, 1302, 1303] (by decide +kernel) (by decide +kernel)
set_option maxRecDepth 20000 in
theorem ggL_law_L_act : GoodIn wsL_law wsL_act := goodIn_ca (goodIn_ca (goodIn_ca (goodIn_ca (goodIn_ca (goodIn_ca (goodIn_ca (goodIn_ca (goodIn_ca (goodIn_ca (goodIn_ca (goodIn_ca (goodIn_ca (goodIn_ca (goodIn_ca pgL_law_L_act_0 (goodIn_app pgL_law_L_act_1 (goodIn_app pgL_law_L_act_2 (goodIn_app pgL_law_L_act_3 (goodIn_app pgL_law_L_act_4 (goodIn_app pgL_law_L_act_5 (goodIn_app pgL_law_L_act_6 (goodIn_app pgL_law_L_act_7 (goodIn_app pgL_law_L_act_8 (goodIn_app pgL_law_L_act_9 (goodIn_app pgL_law_L_act_10 (goodIn_app pgL_law_L_act_11 (goodIn_app pgL_law_L_act_12 (goodIn_app pgL_law_L_act_13 (pgL_law_L_act_14))))))))))))))) pgL_law_L_act_15) pgL_law_L_act_16) pgL_law_L_act_17) pgL_law_L_act_18) pgL_law_L_act_19) pgL_law_L_act_20) pgL_law_L_act_21) pgL_law_L_act_22) pgL_law_L_act_23) pgL_law_L_act_24) pgL_law_L_act_25) pgL_law_L_act_26) (goodIn_sub (fun _ h => List.mem_append_left _ (List.mem_append_right _ h)) (by decide +kernel))) (goodIn_sub (fun _ h => List.mem_append_right _ h) (by decide +kernel))
set_option maxRecDepth 20000 in
theorem gL_law_L_act : GoodIn wsL_law (va_wsS RL 162 yL_act wsL_act) := goodIn_app (goodIn_of _ (by decide +kernel)) ggL_law_L_act
set_option maxRecDepth 20000 in
theorem ggL_law_X12_digest : GoodIn wsL_law wsX12_digest := goodIn_r _ [1047, 1048, 32, 1049, 1050, 2, 1051, 1052, 1053, 1054, 1055, 31, 1056, 85, 823, 757, 758, 759, 87, 79, 1057, 1058, 1059, 1060, 1061, 1062, 1063, 1064, 1065, 82, 1066, 755, 1067, 10, 11, 12, 1068, 1069, 1070, 1071, 95, 955, 956, 957, 958, 1226, 1227, 1228, 1229, 1230, 1231, 1232, 1256, 1257, 1258, 1259, 1260, 1261, 1262, 1263, 1264, 1274, 1275, 1276, 1277, 1278, 1279, 1280, 1281, 1282, 1283, 1284, 1285, 1286, 1287] (by decide +kernel) (by decide +kernel)
set_option maxRecDepth 20000 in
theorem gL_law_X12_digest : GoodIn wsL_law (wsV RL 166 RX12 yX12_digest wsX12_digest) := goodIn_app (goodIn_of _ (by decide +kernel)) ggL_law_X12_digest
set_option maxRecDepth 20000 in
theorem ggL_law_X12_warningsOf : GoodIn wsL_law wsX12_warningsOf := goodIn_ca (goodIn_r _ [1075, 32, 509, 510, 2, 511, 512, 513, 1053, 1054, 1055, 31, 1056, 85, 1226, 1227, 1228, 1229, 1230, 1231, 1232, 1256, 1257, 1258, 1259, 1260, 1261, 1262, 1263, 1264] (by decide +kernel) (by decide +kernel)) (goodIn_sub (fun _ h => List.mem_append_left _ (List.mem_append_right _ h)) (by decide +kernel))
set_option maxRecDepth 20000 in
theorem gL_law_X12_warningsOf : GoodIn wsL_law (wsV RL 170 RX12 yX12_warningsOf wsX12_warningsOf) := goodIn_app (goodIn_of _ (by decide +kernel)) ggL_law_X12_warningsOf
set_option maxRecDepth 20000 in
theorem ggL_law_X12_warnings : GoodIn wsL_law wsX12_warnings := goodIn_r _ [1079, 32, 1226, 1227, 1228, 1229, 1230, 1231, 1232, 1256, 1257, 1258, 1259, 1260, 1261, 1262, 1263, 1264, 1281, 1282] (by decide +kernel) (by decide +kernel)
set_option maxRecDepth 20000 in
theorem gL_law_X12_warnings : GoodIn wsL_law (wsV RL 173 RX12 yX12_warnings wsX12_warnings) := goodIn_app (goodIn_of _ (by decide +kernel)) ggL_law_X12_warnings
