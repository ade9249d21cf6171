set_option maxRecDepth 20000 in
theorem ggL_law_X12_mealIn : GoodIn wsL_law wsX12_mealIn := goodIn_ca (goodIn_r _ [1109, 817, 818, 819, 2, 820, 821, 822, 32, 823, 757, 758, 31, 759, 87, 79, 1283, 1284, 1285, 1286, 1287, 1226, 1227, 1228, 1229, 1230, 1231, 1232, 1256, 1257, 1258, 1259, 1260, 1261, 1262, 1263, 1264, 1274, 1275, 1276, 1277, 1278, 1279, 1280] (by decide +kernel) (by decide +kernel)) (goodIn_sub (fun _ h => List.mem_append_right _ h) (by decide +kernel))
set_option maxRecDepth 20000 in
theorem gL_law_X12_mealIn : GoodIn wsL_law (wsV RL 198 RX12 yX12_mealIn wsX12_mealIn) := goodIn_app (goodIn_of _ (by decide +kernel)) ggL_law_X12_mealIn
set_option maxRecDepth 20000 in
theorem ggL_law_X12_roomIn : GoodIn wsL_law wsX12_roomIn := goodIn_ca (goodIn_r _ [1113, 817, 818, 819, 2, 820, 821, 822, 32, 823, 757, 758, 31, 759, 87, 79, 1114, 830, 831, 91, 832, 833, 764, 765, 1226, 1227, 1228, 1229, 1230, 1231, 1232, 1256, 1257, 1258, 1259, 1260, 1261, 1262, 1263, 1264, 1274, 1275, 1276, 1277, 1278, 1279, 1280, 1283, 1284, 1285, 1286, 1287] (by decide +kernel) (by decide +kernel)) (goodIn_sub (fun _ h => List.mem_append_right _ h) (by decide +kernel))
set_option maxRecDepth 20000 in
theorem gL_law_X12_roomIn : GoodIn wsL_law (wsV RL 201 RX12 yX12_roomIn wsX12_roomIn) := goodIn_app (goodIn_of _ (by decide +kernel)) ggL_law_X12_roomIn
set_option maxRecDepth 20000 in
theorem ggL_law_X12_holdsOf : GoodIn wsL_law wsX12_holdsOf := goodIn_ca (goodIn_r _ [1118, 817, 818, 819, 2, 820, 821, 822, 32, 823, 757, 758, 31, 759, 87, 79, 1283, 1284, 1285, 1286, 1287, 1226, 1227, 1228, 1229, 1230, 1231, 1232, 1256, 1257, 1258, 1259, 1260, 1261, 1262, 1263, 1264, 1274, 1275, 1276, 1277, 1278, 1279, 1280] (by decide +kernel) (by decide +kernel)) (goodIn_sub (fun _ h => List.mem_append_right _ h) (by decide +kernel))
set_option maxRecDepth 20000 in
theorem gL_law_X12_holdsOf : GoodIn wsL_law (wsV RL 204 RX12 yX12_holdsOf wsX12_holdsOf) := goodIn_app (goodIn_of _ (by decide +kernel)) ggL_law_X12_holdsOf
set_option maxRecDepth 20000 in
theorem ggL_law_X12_doneIn : GoodIn wsL_law wsX12_doneIn := goodIn_ca (goodIn_r _ [1122, 817, 818, 819, 2, 820, 821, 822, 32, 823, 757, 758, 31, 759, 87, 79, 1283, 1284, 1285, 1286, 1287, 1226, 1227, 1228, 1229, 1230, 1231, 1232, 1256, 1257, 1258, 1259, 1260, 1261, 1262, 1263, 1264, 1274, 1275, 1276, 1277, 1278, 1279, 1280] (by decide +kernel) (by decide +kernel)) (goodIn_sub (fun _ h => List.mem_append_right _ h) (by decide +kernel))
set_option maxRecDepth 20000 in
theorem gL_law_X12_doneIn : GoodIn wsL_law (wsV RL 207 RX12 yX12_doneIn wsX12_doneIn) := goodIn_app (goodIn_of _ (by decide +kernel)) ggL_law_X12_doneIn
set_option maxRecDepth 20000 in
theorem ggL_law_X12_meanHeat : GoodIn wsL_law wsX12_meanHeat := goodIn_r _ [1126, 32, 823, 757, 758, 31, 759, 87, 79, 1226, 1227, 1228, 1229, 1230, 1231, 1232, 1256, 1257, 1258, 1259, 1260, 1261, 1262, 1263, 1264, 1274, 1275, 1276, 1277, 1278, 1279, 1280, 1283, 1284, 1285, 1286, 1287] (by decide +kernel) (by decide +kernel)
set_option maxRecDepth 20000 in
theorem gL_law_X12_meanHeat : GoodIn wsL_law (wsV RL 210 RX12 yX12_meanHeat wsX12_meanHeat) := goodIn_app (goodIn_of _ (by decide +kernel)) ggL_law_X12_meanHeat
set_option maxRecDepth 20000 in
theorem ggL_law_X14_next : GoodIn wsL_law wsX14_next := goodIn_r _ [160, 115, 161, 162, 108, 163, 164, 1233] (by decide +kernel) (by decide +kernel)
set_option maxRecDepth 20000 in
theorem gL_law_X14_next : GoodIn wsL_law (wsV RL 51 RX14 yX14_next wsX14_next) := goodIn_app (goodIn_of _ (by decide +kernel)) ggL_law_X14_next
