set_option maxRecDepth 20000 in
theorem ggL_law_X12_digest : GoodIn wsL_law wsX12_digest := goodIn_r _ [1047, 1048, 32, 1049, 1050, 2, 1051, 1052, 1053, 1054, 1055, 31, 1056, 85, 823, 757, 758, 759, 87, 79, 1057, 1058, 1059, 1060, 1061, 1062, 1063, 1064, 1065, 82, 1066, 755, 1067, 10, 11, 12, 1068, 1069, 1070, 1071, 95, 955, 956, 957, 958, 1226, 1227, 1228, 1229, 1230, 1231, 1232, 1256, 1257, 1258, 1259, 1260, 1261, 1262, 1263, 1264, 1274, 1275, 1276, 1277, 1278, 1279, 1280, 1281, 1282, 1283, 1284, 1285, 1286, 1287] (by decide +kernel) (by decide +kernel)
set_option maxRecDepth 20000 in
theorem gL_law_X12_digest : GoodIn wsL_law (wsV RL 166 RX12 yX12_digest wsX12_digest) := goodIn_app (goodIn_of _ (by decide +kernel)) ggL_law_X12_digest
set_option maxRecDepth 20000 in
theorem ggL_law_X12_warningsOf : GoodIn wsL_law wsX12_warningsOf := goodIn_ca (goodIn_r _ [1075, 32, 509, 510, 2, 511, 512, 513, 1053, 1054, 1055, 31, 1056, 85, 1226, 1227, 1228, 1229, 1230, 1231, 1232, 1256, 1257, 1258, 1259, 1260, 1261, 1262, 1263, 1264] (by decide +kernel) (by decide +kernel)) (goodIn_sub (fun _ h => List.mem_append_left _ (List.mem_append_right _ h)) (by decide +kernel))
set_option maxRecDepth 20000 in
theorem gL_law_X12_warningsOf : GoodIn wsL_law (wsV RL 170 RX12 yX12_warningsOf wsX12_warningsOf) := goodIn_app (goodIn_of _ (by decide +kernel)) ggL_law_X12_warningsOf
set_option maxRecDepth 20000 in
theorem ggL_law_X12_warnings : GoodIn wsL_law wsX12_warnings := goodIn_r _ [1079, 32, 1226, 1227, 1228, 1229, 1230, 1231, 1232, 1256, 1257, 1258, 1259, 1260, 1261, 1262, 1263, 1264, 1281, 1282] (by decide +kernel) (by decide +kernel)
set_option maxRecDepth 20000 in
theorem gL_law_X12_warnings : GoodIn wsL_law (wsV RL 173 RX12 yX12_warnings wsX12_warnings) := goodIn_app (goodIn_of _ (by decide +kernel)) ggL_law_X12_warnings
set_option maxRecDepth 20000 in
theorem ggL_law_X12_boilingPoint : GoodIn wsL_law wsX12_boilingPoint := goodIn_r _ [1083, 32, 1084, 799, 800, 31, 801, 745, 802, 803, 804, 1226, 1227, 1228, 1229, 1230, 1231, 1232, 1256, 1257, 1258, 1259, 1260, 1261, 1262, 1263, 1264] (by decide +kernel) (by decide +kernel)
set_option maxRecDepth 20000 in
theorem gL_law_X12_boilingPoint : GoodIn wsL_law (wsV RL 176 RX12 yX12_boilingPoint wsX12_boilingPoint) := goodIn_app (goodIn_of _ (by decide +kernel)) ggL_law_X12_boilingPoint
set_option maxRecDepth 20000 in
theorem ggL_law_X12_altitude : GoodIn wsL_law wsX12_altitude := goodIn_r _ [1088, 32, 1226, 1227, 1228, 1229, 1230, 1231, 1232, 1256, 1257, 1258, 1259, 1260, 1261, 1262, 1263, 1264] (by decide +kernel) (by decide +kernel)
set_option maxRecDepth 20000 in
theorem gL_law_X12_altitude : GoodIn wsL_law (wsV RL 179 RX12 yX12_altitude wsX12_altitude) := goodIn_app (goodIn_of _ (by decide +kernel)) ggL_law_X12_altitude
set_option maxRecDepth 20000 in
theorem ggL_law_X12_boilingAt : GoodIn wsL_law wsX12_boilingAt := goodIn_ca (goodIn_r _ [1092, 509, 510, 2, 511, 512, 513, 1093, 803, 31, 804] (by decide +kernel) (by decide +kernel)) (goodIn_sub (fun _ h => List.mem_append_left _ (List.mem_append_right _ h)) (by decide +kernel))
set_option maxRecDepth 20000 in
theorem gL_law_X12_boilingAt : GoodIn wsL_law (wsV RL 181 RX12 yX12_boilingAt wsX12_boilingAt) := goodIn_app (goodIn_of _ (by decide +kernel)) ggL_law_X12_boilingAt
