set_option maxRecDepth 20000 in
theorem ggL_law_X12_boilingPoint : GoodIn wsL_law wsX12_boilingPoint := goodIn_r _ [1083, 32, 1084, 799, 800, 31, 801, 745, 802, 803, 804, 1226, 1227, 1228, 1229, 1230, 1231, 1232, 1256, 1257, 1258, 1259, 1260, 1261, 1262, 1263, 1264] (by decide +kernel) (by decide +kernel)
set_option maxRecDepth 20000 in
theorem gL_law_X12_boilingPoint : GoodIn wsL_law (wsV RL 176 RX12 yX12_boilingPoint wsX12_boilingPoint) := goodIn_app (goodIn_of _ (by decide +kernel)) ggL_law_X12_boilingPoint
set_option maxRecDepth 20000 in
theorem ggL_law_X12_altitude : GoodIn wsL_law wsX12_altitude := goodIn_r _ [1088, 32, 1226, 1227, 1228, 1229, 1230, 1231, 1232, 1256, 1257, 1258, 1259, 1260, 1261, 1262, 1263, 1264] (by decide +kernel) (by decide +kernel)
set_option maxRecDepth 20000 in
theorem gL_law_X12_altitude : GoodIn wsL_law (wsV RL 179 RX12 yX12_altitude wsX12_altitude) := goodIn_app (goodIn_of _ (by decide +kernel)) ggL_law_X12_altitude
set_option maxRecDepth 20000 in
theorem ggL_law_X12_boilingAt : GoodIn wsL_law wsX12_boilingAt := goodIn_ca (goodIn_r _ [1092, 509, 510, 2, 511, 512, 513, 1093, 803, 31, 804] (by decide +kernel) (by decide +kernel)) (goodIn_sub (fun _ h => List.mem_append_left _ (List.mem_append_right _ h)) (by decide +kernel))
set_option maxRecDepth 20000 in
theorem gL_law_X12_boilingAt : GoodIn wsL_law (wsV RL 181 RX12 yX12_boilingAt wsX12_boilingAt) := goodIn_app (goodIn_of _ (by decide +kernel)) ggL_law_X12_boilingAt
set_option maxRecDepth 20000 in
theorem ggL_law_X12_warningAt : GoodIn wsL_law wsX12_warningAt := goodIn_ca (goodIn_r _ [1097, 32, 1063, 1064, 1065, 82, 1066, 755, 1067, 10, 11, 12, 888, 889, 2, 890, 821, 822, 1068, 1069, 1070, 1071, 95, 955, 956, 957, 958, 1226, 1227, 1228, 1229, 1230, 1231, 1232, 1256, 1257, 1258, 1259, 1260, 1261, 1262, 1263, 1264, 1281, 1282] (by decide +kernel) (by decide +kernel)) (goodIn_sub (fun _ h => List.mem_append_right _ h) (by decide +kernel))
set_option maxRecDepth 20000 in
theorem gL_law_X12_warningAt : GoodIn wsL_law (wsV RL 189 RX12 yX12_warningAt wsX12_warningAt) := goodIn_app (goodIn_of _ (by decide +kernel)) ggL_law_X12_warningAt
set_option maxRecDepth 20000 in
theorem ggL_law_X12_heatOf : GoodIn wsL_law wsX12_heatOf := goodIn_ca (goodIn_r _ [1101, 817, 818, 819, 2, 820, 821, 822, 32, 823, 757, 758, 31, 759, 87, 79, 1283, 1284, 1285, 1286, 1287, 1226, 1227, 1228, 1229, 1230, 1231, 1232, 1256, 1257, 1258, 1259, 1260, 1261, 1262, 1263, 1264, 1274, 1275, 1276, 1277, 1278, 1279, 1280] (by decide +kernel) (by decide +kernel)) (goodIn_sub (fun _ h => List.mem_append_right _ h) (by decide +kernel))
set_option maxRecDepth 20000 in
theorem gL_law_X12_heatOf : GoodIn wsL_law (wsV RL 192 RX12 yX12_heatOf wsX12_heatOf) := goodIn_app (goodIn_of _ (by decide +kernel)) ggL_law_X12_heatOf
set_option maxRecDepth 20000 in
theorem ggL_law_X12_waterIn : GoodIn wsL_law wsX12_waterIn := goodIn_ca (goodIn_r _ [1105, 817, 818, 819, 2, 820, 821, 822, 32, 823, 757, 758, 31, 759, 87, 79, 1283, 1284, 1285, 1286, 1287, 1226, 1227, 1228, 1229, 1230, 1231, 1232, 1256, 1257, 1258, 1259, 1260, 1261, 1262, 1263, 1264, 1274, 1275, 1276, 1277, 1278, 1279, 1280] (by decide +kernel) (by decide +kernel)) (goodIn_sub (fun _ h => List.mem_append_right _ h) (by decide +kernel))
set_option maxRecDepth 20000 in
theorem gL_law_X12_waterIn : GoodIn wsL_law (wsV RL 195 RX12 yX12_waterIn wsX12_waterIn) := goodIn_app (goodIn_of _ (by decide +kernel)) ggL_law_X12_waterIn
