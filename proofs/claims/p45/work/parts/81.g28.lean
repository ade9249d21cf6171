set_option maxRecDepth 20000 in
theorem ggL_law_J4_append_bf812 : GoodIn wsL_law wsJ4_append_bf812 := goodIn_ca (goodIn_ca pgL_law_J4_append_bf812_0 (goodIn_app pgL_law_J4_append_bf812_1 (goodIn_app pgL_law_J4_append_bf812_2 (pgL_law_J4_append_bf812_3)))) pgL_law_J4_append_bf812_4
set_option maxRecDepth 20000 in
theorem gL_law_J4_append_bf812 : GoodIn wsL_law (wsV RL 72 RJ4 yJ4_append_bf812 wsJ4_append_bf812) := goodIn_app (goodIn_of _ (by decide +kernel)) ggL_law_J4_append_bf812
set_option maxRecDepth 20000 in
theorem ggL_law_X12_pourWater : GoodIn wsL_law wsX12_pourWater := goodIn_ca (goodIn_ca (goodIn_r _ [816, 817, 818, 819, 2, 820, 821, 822, 32, 823, 757, 758, 31, 759, 87, 79, 509, 510, 511, 512, 513, 824, 825, 826, 91, 827, 828, 10, 11, 12, 99, 766, 765, 764, 829, 830, 831, 832, 833, 834, 835, 836, 837, 838, 839, 1226, 1227, 1228, 1229, 1230, 1231, 1232, 1256, 1257, 1258, 1259, 1260, 1261, 1262, 1263, 1264, 1274, 1275, 1276, 1277, 1278, 1279, 1280, 1283, 1284, 1285, 1286, 1287] (by decide +kernel) (by decide +kernel)) (goodIn_sub (fun _ h => List.mem_append_right _ h) (by decide +kernel))) (goodIn_sub (fun _ h => List.mem_append_left _ (List.mem_append_right _ h)) (by decide +kernel))
set_option maxRecDepth 20000 in
theorem gL_law_X12_pourWater : GoodIn wsL_law (wsV RL 120 RX12 yX12_pourWater wsX12_pourWater) := goodIn_app (goodIn_of _ (by decide +kernel)) ggL_law_X12_pourWater
